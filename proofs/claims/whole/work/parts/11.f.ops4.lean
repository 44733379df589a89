def qF (f : Nat → Pr) : List Nat := (List.range 6).map (fun k => (f k).1)
def qS (f : Nat → Pr) : List Nat := (List.range 6).map (fun k => (f k).2.1)
def qA (f : Nat → Pr) : List Nat := (List.range 6).map (fun k => (f k).2.2)
theorem map6 (g : Nat → Nat) {k : Nat} (h : k < 6) : ((List.range 6).map g).getD k 0 = g k := by
  rw [List.getD_eq_getElem?_getD, List.getElem?_map, List.getElem?_range h]; rfl
theorem lFSA {F S A : List Nat} {m : Nat} {f : Nat → Pr} (hf : ∀ i, i < m → fOf F S A i = f i) (hm : m ≤ 6) : ∀ i, i < m → F.getD i 0 = (qF f).getD i 0 ∧ S.getD i 0 = (qS f).getD i 0 ∧ A.getD i 0 = (qA f).getD i 0 := fun i hi => by
  have e := hf i hi
  unfold qF qS qA
  rw [map6 _ (by omega), map6 _ (by omega), map6 _ (by omega), ← e]
  exact ⟨rfl, rfl, rfl⟩
theorem lFS {F S A : List Nat} {m : Nat} {f : Nat → Pr} (hf : ∀ i, i < m → fOf F S A i = f i) (hm : m ≤ 6) : ∀ i, i < m → F.getD i 0 = (qF f).getD i 0 ∧ S.getD i 0 = (qS f).getD i 0 := fun i hi => ⟨(lFSA hf hm i hi).1, (lFSA hf hm i hi).2.1⟩
theorem uBits_ext {A A2 : List Nat} : ∀ k, (∀ i, i < k → A.getD i 0 = A2.getD i 0) → uBits A k = uBits A2 k
  | 0, _ => rfl
  | k + 1, h => by
    show uBits A k ||| _ = uBits A2 k ||| _
    rw [uBits_ext k (fun i hi => h i (by omega)), h k (by omega)]
theorem hBits_ext {n : Nat} {F S A F2 S2 A2 : List Nat} : ∀ k, (∀ i, i < k → F.getD i 0 = F2.getD i 0 ∧ S.getD i 0 = S2.getD i 0 ∧ A.getD i 0 = A2.getD i 0) → hBits n F S A k = hBits n F2 S2 A2 k
  | 0, _ => rfl
  | k + 1, h => by
    show (hBits n F S A k ||| _) ||| _ = (hBits n F2 S2 A2 k ||| _) ||| _
    rw [hBits_ext k (fun i hi => h i (by omega)), (h k (by omega)).1, (h k (by omega)).2.1, (h k (by omega)).2.2]
theorem adS_ext {n m : Nat} {F S A F2 S2 A2 : List Nat} (h : ∀ i, i < m → F.getD i 0 = F2.getD i 0 ∧ S.getD i 0 = S2.getD i 0 ∧ A.getD i 0 = A2.getD i 0) : adS n m F S A = adS n m F2 S2 A2 := by
  unfold adS
  rw [isSt_ext (fun i hi => ⟨(h i hi).1, (h i hi).2.1⟩), uBits_ext m (fun i hi => (h i hi).2.2), hBits_ext m h]
def toldN (n : Nat) (p : Pr) (w : Nat) : Nat := if w = 0 then p.1 else if w = 1 then p.2.1 else if w = 2 then p.2.2 else if w = 3 then (p.1 + p.2.1) % n else min ((p.1 + n - p.2.1) % n) (n - (p.1 + n - p.2.1) % n)
def isB (n m : Nat) (f : Nat → Pr) (w : Nat) : Bool := if w = 0 then decide (m = (n - 1) / 2) else if w = 1 then isSt n m (qF f) (qS f) else if w = 2 then isSt n m (qF f) (qS f) && stS n m (qF f) (qS f) else if w = 3 then isSt n m (qF f) (qS f) && (stS n m (qF f) (qS f) && skS n m (qF f) (qS f)) else adS n m (qF f) (qS f) (qA f)
theorem upto4 {w : Nat} (h : w ≤ 4) : w = 0 ∨ w = 1 ∨ w = 2 ∨ w = 3 ∨ w = 4 := by omega
theorem ev_told {h : List aC} {p n m : Nat} {F S A : List Nat} (hP : PA h p n m F S A) (hn : 0 < n ∧ n ≤ 13) (j : Nat) (hj : j < 6) (hF : F.getD j 0 < n) (hS : S.getD j 0 < n) (w : Nat) (hw : w ≤ 4) : Ev mX3_told 4 0 0 [.ref p, .int (nI j), .int (nI w)] h (pv (.int (nI (toldN n (fOf F S A j) w))) h) := by
  rcases upto4 hw with h | h | h | h | h <;> subst h
  · exact ev_told_0 hP hn j hj hF hS
  · exact ev_told_1 hP hn j hj hF hS
  · exact ev_told_2 hP hn j hj hF hS
  · exact ev_told_3 hP hn j hj hF hS
  · exact ev_told_4 hP hn j hj hF hS
theorem ev_such {h : List aC} {p n m : Nat} {F S A : List Nat} (hP : PA h p n m F S A) (hm : m ≤ 6) (hn : n ≤ 13) (hb : bnd n m F S A) (h0 : 0 < n) {f : Nat → Pr} (hf : ∀ i, i < m → fOf F S A i = f i) (w : Nat) (hw : w ≤ 4) : Ev mX3_areSuch 6 0 0 [.ref p, .int (nI w)] h (pv (.int (nI (bI (isB n m f w)))) h) := by
  have e1 := isSt_ext (n := n) (lFS hf hm)
  have e2 := stS_ext (n := n) (lFS hf hm)
  have e3 := skS_ext (n := n) (lFS hf hm)
  have e4 := adS_ext (n := n) (lFSA hf hm)
  rcases upto4 hw with h | h | h | h | h <;> subst h
  · exact ev_areSuch_0 hP hm hn hb h0
  · have z := ev_areSuch_1 hP hm hn hb h0
    rw [e1] at z; exact z
  · have z := ev_areSuch_2 hP hm hn hb h0
    rw [e1, e2] at z; exact z
  · have z := ev_areSuch_3 hP hm hn hb h0
    rw [e1, e2, e3] at z; exact z
  · have z := ev_areSuch_4 hP hm hn hb h0
    rw [e4] at z; exact z
def oOf (σ : Sg) (x y : Int32) : Int32 × Sg := if 0 ≤ x ∧ x < nI σ.1.2.1 then (if y < 0 ∨ ¬ y ≤ nI 4 then rfS σ (-2) else (nI (toldN σ.1.1 (σ.1.2.2.1 x.toNatClampNeg) y.toNatClampNeg), σ)) else rfS σ (-1)
def oIs (σ : Sg) (y : Int32) : Int32 × Sg := if y < 0 ∨ ¬ y ≤ nI 4 then rfS σ (-2) else (nI (bI (isB σ.1.1 σ.1.2.1 σ.1.2.2.1 y.toNatClampNeg)), σ)
theorem hasB {x : Int32} {m : Nat} : ((decide (0 ≤ x) && decide (x < nI m)) = true) ↔ (0 ≤ x ∧ x < nI m) := by rw [Bool.and_eq_true, decide_eq_true_eq, decide_eq_true_eq]

set_option maxRecDepth 100000 in
set_option maxHeartbeats 4000000 in
theorem ev_x_of {h : List aC} {σ : Sg} (H : RC h σ) (ok : okSg σ) (x y : Int32) : Ev mX8_of 5 0 0 [.ref 0, .int x, .int y] h (sp h (oOf σ x y)) := by
  obtain ⟨hO0, hS, ⟨ci, hI, hI2⟩, ⟨cd, hDr⟩, hLt, hL, hH, ⟨⟨sw_, sc_, sgs, sgk, hX⟩, ⟨xn, xm, xF, xS, xA, hXP⟩⟩, ⟨tn, tm, tF, tS, tA, hTh⟩, ⟨pn, pm, pF, pS, pA, hSp⟩, hRf⟩ := id H
  obtain ⟨hO1, F, S, A, K, U, C, T, hP, hf, hT, ht, hR, hC, hl⟩ := id hS
  have hO1 : rd h 1 = some (.inr (6, [.ref 2, .ref 6, .ref 9])) := hO1
  have hP : PA h 2 _ _ F S A := hP
  have hT : TA h 6 _ K U := hT
  have hR : RA h 9 _ C T := hR
  obtain ⟨-, -, -, -, lF, lS, lA⟩ := id hP
  obtain ⟨-, -, -, lK, lU⟩ := id hT
  obtain ⟨-, -, -, lC, lT⟩ := id hR
  obtain ⟨okc, ⟨okl, okw⟩, okn, ⟨okh, oke⟩, oki, okr⟩ := id ok
  obtain ⟨k1, k2, k3, k4, k5, k6, k7, k8, k9⟩ := id okc
  have hbn : bnd σ.1.1 σ.1.2.1 F S A := okc.bnd hf
  refine Ev.of pX8_of (Nat.le_of_ble_eq_true rfl) ?_
  show G mX8_of (rmD 5 0 0) none _ 0 0 0 [(0, .ref 0), (1, .int x), (2, .int y)] [] h
  obtain ⟨nx1, o1⟩ := HR.o hH
  refine g_aload_n dX8_of_0 0 rfl ?_
  refine g_getf dX8_of_1 kX8 wfX8_10 (Nat.le_of_ble_eq_true rfl) (hO0) rfl ?_
  refine g_getf dX8_of_4 kX6 wfX8_97 (Nat.le_of_ble_eq_true rfl) (hO1) rfl ?_
  refine g_iload_n dX8_of_7 1 rfl ?_
  refine g_callVp dX8_of_8 (ev_has hP (by omega) x) oX3_has wiX3_has weX3_has wmX8_126 kX3 (hP.1) rfl ⟨(Nat.le_of_ble_eq_true rfl), (Nat.le_of_ble_eq_true rfl)⟩ ⟨Nat.zero_le _, Nat.zero_le _⟩ (Nat.le_of_ble_eq_true rfl) rfl ?_
  refine g_if_neB 20 dX8_of_11 (by decide) (fun c11 => ?_) (fun c11 => ?_)
  · have c11 := hasB.mp c11
    obtain ⟨x1, hx1, rfl⟩ := nn_of c11.1
    have b1 := nn_lt hx1 (by omega) c11.2
    refine g_iload_n dX8_of_20 2 rfl ?_
    refine g_if_lt 29 dX8_of_21 (by decide) (fun c21 => ?_) (fun c21 => ?_)
    · refine g_aload_n dX8_of_29 0 rfl ?_
      refine g_bipush (v := (-2)) dX8_of_30 (by decide +kernel) ?_
      rw [show oOf σ (nI x1) y = rfS σ (-2) from (if_pos c11).trans (if_pos (by first | exact Or.inl c21 | exact Or.inr c26))]
      refine g_callVq (st1 := [.int (-nI 2)]) dX8_of_32 (ev_refuse H ok 2 (by unfold noN; omega)) oX8_refuse wiX8_refuse weX8_refuse wmX8_68 kX8 (hO0) rfl ⟨(Nat.le_of_ble_eq_true rfl), (Nat.le_of_ble_eq_true rfl)⟩ ⟨Nat.zero_le _, Nat.zero_le _⟩ (Nat.le_of_ble_eq_true rfl) rfl rfl (fun h2 q2 => ?_)
      exact g_iret dX8_of_35 rfl ⟨Nat.zero_le _, Nat.zero_le _⟩ (⟨rfl, q2⟩)
    · refine g_iload_n dX8_of_24 2 rfl ?_
      refine g_iconst (v := nI 4) dX8_of_25 (by decide +kernel) ?_
      refine g_icmp_le 36 dX8_of_26 (by decide) (fun c26 => ?_) (fun c26 => ?_)
      · rw [show oOf σ (nI x1) y = (nI (toldN σ.1.1 (σ.1.2.2.1 (nI x1).toNatClampNeg) y.toNatClampNeg), σ) from (if_pos c11).trans (if_neg (fun z => by rcases z with z | z; exact c21 z; exact z c26))]
        obtain ⟨y1, hy1, rfl⟩ := nn_of (Int32.not_lt.mp c21)
        have b2 : y1 ≤ 4 := (nI_leI hy1 (by omega)).mp c26
        rw [cl_ hx1, cl_ hy1]
        have b3 := hbn x1 b1
        refine g_aload_n dX8_of_36 0 rfl ?_
        refine g_getf dX8_of_37 kX8 wfX8_10 (Nat.le_of_ble_eq_true rfl) (hO0) rfl ?_
        refine g_getf dX8_of_40 kX6 wfX8_97 (Nat.le_of_ble_eq_true rfl) (hO1) rfl ?_
        refine g_iload_n dX8_of_43 1 rfl ?_
        refine g_iload_n dX8_of_44 2 rfl ?_
        refine g_callVp dX8_of_45 (ev_told hP (by omega) x1 (by omega) b3.1 b3.2.1 y1 b2) oX3_told wiX3_told weX3_told wmX8_130 kX3 (hP.1) rfl ⟨(Nat.le_of_ble_eq_true rfl), (Nat.le_of_ble_eq_true rfl)⟩ ⟨Nat.zero_le _, Nat.zero_le _⟩ (Nat.le_of_ble_eq_true rfl) rfl ?_
        refine g_top (congrArg (fun z => nI (toldN σ.1.1 z y1)) (hf x1 b1)) ?_
        exact g_iret dX8_of_48 rfl ⟨Nat.zero_le _, Nat.zero_le _⟩ (⟨rfl, ⟨hO0, ⟨hO1, _, _, _, _, _, _, _, hP, hf, hT, ht, hR, hC, hl⟩, ⟨_, hI, hI2⟩, ⟨_, hDr⟩, hLt, hL, hH, ⟨⟨_, _, _, _, hX⟩, ⟨_, _, _, _, _, hXP⟩⟩, ⟨_, _, _, _, _, hTh⟩, ⟨_, _, _, _, _, hSp⟩, hRf⟩, Smo.rf⟩)
      · refine g_aload_n dX8_of_29 0 rfl ?_
        refine g_bipush (v := (-2)) dX8_of_30 (by decide +kernel) ?_
        rw [show oOf σ (nI x1) y = rfS σ (-2) from (if_pos c11).trans (if_pos (by first | exact Or.inl c21 | exact Or.inr c26))]
        refine g_callVq (st1 := [.int (-nI 2)]) dX8_of_32 (ev_refuse H ok 2 (by unfold noN; omega)) oX8_refuse wiX8_refuse weX8_refuse wmX8_68 kX8 (hO0) rfl ⟨(Nat.le_of_ble_eq_true rfl), (Nat.le_of_ble_eq_true rfl)⟩ ⟨Nat.zero_le _, Nat.zero_le _⟩ (Nat.le_of_ble_eq_true rfl) rfl rfl (fun h3 q3 => ?_)
        exact g_iret dX8_of_35 rfl ⟨Nat.zero_le _, Nat.zero_le _⟩ (⟨rfl, q3⟩)
  · refine g_aload_n dX8_of_14 0 rfl ?_
    refine g_iconst (v := (-1)) dX8_of_15 (by decide +kernel) ?_
    rw [show oOf σ x y = rfS σ (-1) from if_neg (fun z => by rw [hasB.mpr z] at c11; cases c11)]
    refine g_callVq (st1 := [.int (-nI 1)]) dX8_of_16 (ev_refuse H ok 1 (by unfold noN; omega)) oX8_refuse wiX8_refuse weX8_refuse wmX8_68 kX8 (hO0) rfl ⟨(Nat.le_of_ble_eq_true rfl), (Nat.le_of_ble_eq_true rfl)⟩ ⟨Nat.zero_le _, Nat.zero_le _⟩ (Nat.le_of_ble_eq_true rfl) rfl rfl (fun h4 q4 => ?_)
    exact g_iret dX8_of_19 rfl ⟨Nat.zero_le _, Nat.zero_le _⟩ (⟨rfl, q4⟩)

set_option maxRecDepth 100000 in
set_option maxHeartbeats 4000000 in
theorem ev_x_is {h : List aC} {σ : Sg} (H : RC h σ) (ok : okSg σ) (y : Int32) : Ev mX8_is 7 0 0 [.ref 0, .int y] h (sp h (oIs σ y)) := by
  obtain ⟨hO0, hS, ⟨ci, hI, hI2⟩, ⟨cd, hDr⟩, hLt, hL, hH, ⟨⟨sw_, sc_, sgs, sgk, hX⟩, ⟨xn, xm, xF, xS, xA, hXP⟩⟩, ⟨tn, tm, tF, tS, tA, hTh⟩, ⟨pn, pm, pF, pS, pA, hSp⟩, hRf⟩ := id H
  obtain ⟨hO1, F, S, A, K, U, C, T, hP, hf, hT, ht, hR, hC, hl⟩ := id hS
  have hO1 : rd h 1 = some (.inr (6, [.ref 2, .ref 6, .ref 9])) := hO1
  have hP : PA h 2 _ _ F S A := hP
  have hT : TA h 6 _ K U := hT
  have hR : RA h 9 _ C T := hR
  obtain ⟨-, -, -, -, lF, lS, lA⟩ := id hP
  obtain ⟨-, -, -, lK, lU⟩ := id hT
  obtain ⟨-, -, -, lC, lT⟩ := id hR
  obtain ⟨okc, ⟨okl, okw⟩, okn, ⟨okh, oke⟩, oki, okr⟩ := id ok
  obtain ⟨k1, k2, k3, k4, k5, k6, k7, k8, k9⟩ := id okc
  have hbn : bnd σ.1.1 σ.1.2.1 F S A := okc.bnd hf
  refine Ev.of pX8_is (Nat.le_of_ble_eq_true rfl) ?_
  show G mX8_is (rmD 7 0 0) none _ 0 0 0 [(0, .ref 0), (1, .int y)] [] h
  obtain ⟨nx1, o1⟩ := HR.o hH
  refine g_iload_n dX8_is_0 1 rfl ?_
  refine g_if_lt 9 dX8_is_1 (by decide) (fun c1 => ?_) (fun c1 => ?_)
  · refine g_aload_n dX8_is_9 0 rfl ?_
    refine g_bipush (v := (-2)) dX8_is_10 (by decide +kernel) ?_
    rw [show oIs σ y = rfS σ (-2) from if_pos (by first | exact Or.inl c1 | exact Or.inr c6)]
    refine g_callVq (st1 := [.int (-nI 2)]) dX8_is_12 (ev_refuse H ok 2 (by unfold noN; omega)) oX8_refuse wiX8_refuse weX8_refuse wmX8_68 kX8 (hO0) rfl ⟨(Nat.le_of_ble_eq_true rfl), (Nat.le_of_ble_eq_true rfl)⟩ ⟨Nat.zero_le _, Nat.zero_le _⟩ (Nat.le_of_ble_eq_true rfl) rfl rfl (fun h2 q2 => ?_)
    exact g_iret dX8_is_15 rfl ⟨Nat.zero_le _, Nat.zero_le _⟩ (⟨rfl, q2⟩)
  · refine g_iload_n dX8_is_4 1 rfl ?_
    refine g_iconst (v := nI 4) dX8_is_5 (by decide +kernel) ?_
    refine g_icmp_le 16 dX8_is_6 (by decide) (fun c6 => ?_) (fun c6 => ?_)
    · rw [show oIs σ y = (nI (bI (isB σ.1.1 σ.1.2.1 σ.1.2.2.1 y.toNatClampNeg)), σ) from if_neg (fun z => by rcases z with z | z; exact c1 z; exact z c6)]
      obtain ⟨y1, hy1, rfl⟩ := nn_of (Int32.not_lt.mp c1)
      have b2 : y1 ≤ 4 := (nI_leI hy1 (by omega)).mp c6
      rw [cl_ hy1]
      refine g_aload_n dX8_is_16 0 rfl ?_
      refine g_getf dX8_is_17 kX8 wfX8_10 (Nat.le_of_ble_eq_true rfl) (hO0) rfl ?_
      refine g_getf dX8_is_20 kX6 wfX8_97 (Nat.le_of_ble_eq_true rfl) (hO1) rfl ?_
      refine g_iload_n dX8_is_23 1 rfl ?_
      refine g_callVp dX8_is_24 (ev_such hP (by omega) (by omega) hbn (by omega) hf y1 b2) oX3_areSuch wiX3_areSuch weX3_areSuch wmX8_133 kX3 (hP.1) rfl ⟨(Nat.le_of_ble_eq_true rfl), (Nat.le_of_ble_eq_true rfl)⟩ ⟨Nat.zero_le _, Nat.zero_le _⟩ (Nat.le_of_ble_eq_true rfl) rfl ?_
      refine g_callSp dX8_is_27 (ev_bit (isB σ.1.1 σ.1.2.1 σ.1.2.2.1 y1) _) oX8_bit wsX8_bit wmX8_136 rfl ⟨(Nat.le_of_ble_eq_true rfl), (Nat.le_of_ble_eq_true rfl)⟩ ⟨Nat.zero_le _, Nat.zero_le _⟩ (Nat.le_of_ble_eq_true rfl) rfl ?_
      exact g_iret dX8_is_30 rfl ⟨Nat.zero_le _, Nat.zero_le _⟩ (⟨rfl, ⟨hO0, ⟨hO1, _, _, _, _, _, _, _, hP, hf, hT, ht, hR, hC, hl⟩, ⟨_, hI, hI2⟩, ⟨_, hDr⟩, hLt, hL, hH, ⟨⟨_, _, _, _, hX⟩, ⟨_, _, _, _, _, hXP⟩⟩, ⟨_, _, _, _, _, hTh⟩, ⟨_, _, _, _, _, hSp⟩, hRf⟩, Smo.rf⟩)
    · refine g_aload_n dX8_is_9 0 rfl ?_
      refine g_bipush (v := (-2)) dX8_is_10 (by decide +kernel) ?_
      rw [show oIs σ y = rfS σ (-2) from if_pos (by first | exact Or.inl c1 | exact Or.inr c6)]
      refine g_callVq (st1 := [.int (-nI 2)]) dX8_is_12 (ev_refuse H ok 2 (by unfold noN; omega)) oX8_refuse wiX8_refuse weX8_refuse wmX8_68 kX8 (hO0) rfl ⟨(Nat.le_of_ble_eq_true rfl), (Nat.le_of_ble_eq_true rfl)⟩ ⟨Nat.zero_le _, Nat.zero_le _⟩ (Nat.le_of_ble_eq_true rfl) rfl rfl (fun h3 q3 => ?_)
      exact g_iret dX8_is_15 rfl ⟨Nat.zero_le _, Nat.zero_le _⟩ (⟨rfl, q3⟩)
