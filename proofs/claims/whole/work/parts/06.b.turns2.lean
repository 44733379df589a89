theorem fOf_ext {F S A : List Nat} {m : Nat} {f g : Nat → Pr} (a : ∀ i, i < m → fOf F S A i = f i) (b : ∀ i, i < m → f i = g i) : ∀ i, i < m → fOf F S A i = g i := fun i hi => (a i hi).trans (b i hi)

set_option maxRecDepth 100000 in
set_option maxHeartbeats 4000000 in
theorem ev_once0 {h : List aC} {p n m : Nat} {F S A : List Nat} (hP : PA h p n m F S A) {f : Nat → Pr} (hf : ∀ i, i < m → fOf F S A i = f i) (hm : m ≤ 6) (hn : n ≤ 13) (h0n : 0 < n) (hb : bf n m f) {n2 m2 : Nat} {F2 S2 A2 : List Nat} (hP2 : PA h (p + 4) n2 m2 F2 S2 A2) (u : Nat) (hu : u ≤ 12) : Ev mX7_turnOnce 4 0 0 [.ref p, .ref (p + 4), .int (nI 0), .int (nI u)] h (pq none (fun h2 => ∃ F1 S1 A1, PA h2 p n m F1 S1 A1 ∧ (∀ i, i < m → fOf F1 S1 A1 i = tOne n m 0 u f i) ∧ (∃ n2 m2 F2 S2 A2, PA h2 (p + 4) n2 m2 F2 S2 A2) ∧ Smo p (p + 8) h h2)) := by
  obtain ⟨-, -, -, -, lF, lS, lA⟩ := id hP
  refine Ev.of pX7_turnOnce (Nat.le_of_ble_eq_true rfl) ?_
  show G mX7_turnOnce (rmD 4 0 0) none _ 0 0 0 [(0, .ref p), (1, .ref (p + 4)), (2, .int (nI 0)), (3, .int (nI u))] [] h
  refine g_iload_n dX7_turnOnce_0 2 rfl ?_
  refine g_tableIn 40 dX7_turnOnce_1 (by decide +kernel) (by decide +kernel) (off := 39) (by decide +kernel) (by decide) ?_
  refine g_aload_n dX7_turnOnce_40 0 rfl ?_
  refine g_iload_n dX7_turnOnce_41 3 rfl ?_
  refine g_callSq (st1 := []) dX7_turnOnce_42 (ev_mul hP hf hm hn h0n hb (nI u) (fun a => u * a % n) (fun a ha => by rw [pk_mul, fm_N _ _ (by have := Nat.mul_le_mul hu (show a ≤ 13 by omega); omega)])) oX7_multiply wsX7_multiply wmX7_32 rfl ⟨(Nat.le_of_ble_eq_true rfl), (Nat.le_of_ble_eq_true rfl)⟩ ⟨Nat.zero_le _, Nat.zero_le _⟩ (Nat.le_of_ble_eq_true rfl) rfl rfl (fun h1 q1 => ?_)
  refine g_goto 91 dX7_turnOnce_45 (by decide) ?_
  exact g_vret dX7_turnOnce_91 rfl ⟨Nat.zero_le _, Nat.zero_le _⟩ (by obtain ⟨F1, S1, A1, g1, g2, g3⟩ := q1; exact ⟨rfl, F1, S1, A1, g1, g2, ⟨_, _, _, _, _, hP2.mv g3 (by omega)⟩, g3.wid (by omega) (by omega)⟩)

set_option maxRecDepth 100000 in
set_option maxHeartbeats 4000000 in
theorem ev_once1 {h : List aC} {p n m : Nat} {F S A : List Nat} (hP : PA h p n m F S A) {f : Nat → Pr} (hf : ∀ i, i < m → fOf F S A i = f i) (hm : m ≤ 6) (hn : n ≤ 13) (h0n : 0 < n) (hb : bf n m f) {n2 m2 : Nat} {F2 S2 A2 : List Nat} (hP2 : PA h (p + 4) n2 m2 F2 S2 A2) (u : Nat) (hu : u ≤ 12) : Ev mX7_turnOnce 4 0 0 [.ref p, .ref (p + 4), .int (nI 1), .int (nI u)] h (pq none (fun h2 => ∃ F1 S1 A1, PA h2 p n m F1 S1 A1 ∧ (∀ i, i < m → fOf F1 S1 A1 i = tOne n m 1 u f i) ∧ (∃ n2 m2 F2 S2 A2, PA h2 (p + 4) n2 m2 F2 S2 A2) ∧ Smo p (p + 8) h h2)) := by
  obtain ⟨-, -, -, -, lF, lS, lA⟩ := id hP
  refine Ev.of pX7_turnOnce (Nat.le_of_ble_eq_true rfl) ?_
  show G mX7_turnOnce (rmD 4 0 0) none _ 0 0 0 [(0, .ref p), (1, .ref (p + 4)), (2, .int (nI 1)), (3, .int (nI u))] [] h
  refine g_iload_n dX7_turnOnce_0 2 rfl ?_
  refine g_tableIn 48 dX7_turnOnce_1 (by decide +kernel) (by decide +kernel) (off := 47) (by decide +kernel) (by decide) ?_
  refine g_aload_n dX7_turnOnce_48 0 rfl ?_
  refine g_iconst (v := (-1)) dX7_turnOnce_49 (by decide +kernel) ?_
  refine g_callSq (st1 := []) dX7_turnOnce_50 (ev_mul hP hf hm hn h0n hb (-1) (fun a => (n - a) % n) (fun a ha => fm_m1' n (by omega) a ha)) oX7_multiply wsX7_multiply wmX7_32 rfl ⟨(Nat.le_of_ble_eq_true rfl), (Nat.le_of_ble_eq_true rfl)⟩ ⟨Nat.zero_le _, Nat.zero_le _⟩ (Nat.le_of_ble_eq_true rfl) rfl rfl (fun h1 q1 => ?_)
  refine g_goto 91 dX7_turnOnce_53 (by decide) ?_
  exact g_vret dX7_turnOnce_91 rfl ⟨Nat.zero_le _, Nat.zero_le _⟩ (by obtain ⟨F1, S1, A1, g1, g2, g3⟩ := q1; exact ⟨rfl, F1, S1, A1, g1, g2, ⟨_, _, _, _, _, hP2.mv g3 (by omega)⟩, g3.wid (by omega) (by omega)⟩)

set_option maxRecDepth 100000 in
set_option maxHeartbeats 4000000 in
theorem ev_once2 {h : List aC} {p n m : Nat} {F S A : List Nat} (hP : PA h p n m F S A) {f : Nat → Pr} (hf : ∀ i, i < m → fOf F S A i = f i) (hm : m ≤ 6) (hn : n ≤ 13) (h0n : 0 < n) (hb : bf n m f) {n2 m2 : Nat} {F2 S2 A2 : List Nat} (hP2 : PA h (p + 4) n2 m2 F2 S2 A2) (u : Nat) (hu : u ≤ 12) : Ev mX7_turnOnce 4 0 0 [.ref p, .ref (p + 4), .int (nI 2), .int (nI u)] h (pq none (fun h2 => ∃ F1 S1 A1, PA h2 p n m F1 S1 A1 ∧ (∀ i, i < m → fOf F1 S1 A1 i = tOne n m 2 u f i) ∧ (∃ n2 m2 F2 S2 A2, PA h2 (p + 4) n2 m2 F2 S2 A2) ∧ Smo p (p + 8) h h2)) := by
  obtain ⟨-, -, -, -, lF, lS, lA⟩ := id hP
  refine Ev.of pX7_turnOnce (Nat.le_of_ble_eq_true rfl) ?_
  show G mX7_turnOnce (rmD 4 0 0) none _ 0 0 0 [(0, .ref p), (1, .ref (p + 4)), (2, .int (nI 2)), (3, .int (nI u))] [] h
  refine g_iload_n dX7_turnOnce_0 2 rfl ?_
  refine g_tableIn 56 dX7_turnOnce_1 (by decide +kernel) (by decide +kernel) (off := 55) (by decide +kernel) (by decide) ?_
  refine g_aload_n dX7_turnOnce_56 0 rfl ?_
  refine g_aload_n dX7_turnOnce_57 1 rfl ?_
  refine g_callSq (st1 := []) dX7_turnOnce_58 (ev_rev hP hf hm hn h0n hb hP2) oX7_reverse wsX7_reverse wmX7_36 rfl ⟨(Nat.le_of_ble_eq_true rfl), (Nat.le_of_ble_eq_true rfl)⟩ ⟨Nat.zero_le _, Nat.zero_le _⟩ (Nat.le_of_ble_eq_true rfl) rfl rfl (fun h1 q1 => ?_)
  refine g_goto 91 dX7_turnOnce_61 (by decide) ?_
  exact g_vret dX7_turnOnce_91 rfl ⟨Nat.zero_le _, Nat.zero_le _⟩ (⟨rfl, q1⟩)

set_option maxRecDepth 100000 in
set_option maxHeartbeats 4000000 in
theorem ev_once3 {h : List aC} {p n m : Nat} {F S A : List Nat} (hP : PA h p n m F S A) {f : Nat → Pr} (hf : ∀ i, i < m → fOf F S A i = f i) (hm : m ≤ 6) (hn : n ≤ 13) (h0n : 0 < n) (hb : bf n m f) {n2 m2 : Nat} {F2 S2 A2 : List Nat} (hP2 : PA h (p + 4) n2 m2 F2 S2 A2) (u : Nat) (hu : u ≤ 12) : Ev mX7_turnOnce 4 0 0 [.ref p, .ref (p + 4), .int (nI 3), .int (nI u)] h (pq none (fun h2 => ∃ F1 S1 A1, PA h2 p n m F1 S1 A1 ∧ (∀ i, i < m → fOf F1 S1 A1 i = tOne n m 3 u f i) ∧ (∃ n2 m2 F2 S2 A2, PA h2 (p + 4) n2 m2 F2 S2 A2) ∧ Smo p (p + 8) h h2)) := by
  obtain ⟨-, -, -, -, lF, lS, lA⟩ := id hP
  refine Ev.of pX7_turnOnce (Nat.le_of_ble_eq_true rfl) ?_
  show G mX7_turnOnce (rmD 4 0 0) none _ 0 0 0 [(0, .ref p), (1, .ref (p + 4)), (2, .int (nI 3)), (3, .int (nI u))] [] h
  refine g_iload_n dX7_turnOnce_0 2 rfl ?_
  refine g_tableIn 64 dX7_turnOnce_1 (by decide +kernel) (by decide +kernel) (off := 63) (by decide +kernel) (by decide) ?_
  refine g_aload_n dX7_turnOnce_64 0 rfl ?_
  refine g_aload_n dX7_turnOnce_65 1 rfl ?_
  refine g_iload_n dX7_turnOnce_66 3 rfl ?_
  refine g_callSq (st1 := []) dX7_turnOnce_67 (ev_rot hP hf hm hn h0n hb hP2 u hu) oX7_rotate wsX7_rotate wmX7_40 rfl ⟨(Nat.le_of_ble_eq_true rfl), (Nat.le_of_ble_eq_true rfl)⟩ ⟨Nat.zero_le _, Nat.zero_le _⟩ (Nat.le_of_ble_eq_true rfl) rfl rfl (fun h1 q1 => ?_)
  refine g_goto 91 dX7_turnOnce_70 (by decide) ?_
  exact g_vret dX7_turnOnce_91 rfl ⟨Nat.zero_le _, Nat.zero_le _⟩ (⟨rfl, q1⟩)

set_option maxRecDepth 100000 in
set_option maxHeartbeats 4000000 in
theorem ev_once5 {h : List aC} {p n m : Nat} {F S A : List Nat} (hP : PA h p n m F S A) {f : Nat → Pr} (hf : ∀ i, i < m → fOf F S A i = f i) (hm : m ≤ 6) (hn : n ≤ 13) (h0n : 0 < n) (hb : bf n m f) {n2 m2 : Nat} {F2 S2 A2 : List Nat} (hP2 : PA h (p + 4) n2 m2 F2 S2 A2) (u : Nat) (hu : u ≤ 12) : Ev mX7_turnOnce 4 0 0 [.ref p, .ref (p + 4), .int (nI 5), .int (nI u)] h (pq none (fun h2 => ∃ F1 S1 A1, PA h2 p n m F1 S1 A1 ∧ (∀ i, i < m → fOf F1 S1 A1 i = tOne n m 5 u f i) ∧ (∃ n2 m2 F2 S2 A2, PA h2 (p + 4) n2 m2 F2 S2 A2) ∧ Smo p (p + 8) h h2)) := by
  obtain ⟨-, -, -, -, lF, lS, lA⟩ := id hP
  refine Ev.of pX7_turnOnce (Nat.le_of_ble_eq_true rfl) ?_
  show G mX7_turnOnce (rmD 4 0 0) none _ 0 0 0 [(0, .ref p), (1, .ref (p + 4)), (2, .int (nI 5)), (3, .int (nI u))] [] h
  refine g_iload_n dX7_turnOnce_0 2 rfl ?_
  refine g_tableIn 82 dX7_turnOnce_1 (by decide +kernel) (by decide +kernel) (off := 81) (by decide +kernel) (by decide) ?_
  refine g_aload_n dX7_turnOnce_82 0 rfl ?_
  refine g_aload_n dX7_turnOnce_83 1 rfl ?_
  refine g_iload_n dX7_turnOnce_84 3 rfl ?_
  refine g_callSq (st1 := []) dX7_turnOnce_85 (ev_share hP hf hm hn h0n hb hP2 u hu) oX7_share wsX7_share wmX7_47 rfl ⟨(Nat.le_of_ble_eq_true rfl), (Nat.le_of_ble_eq_true rfl)⟩ ⟨Nat.zero_le _, Nat.zero_le _⟩ (Nat.le_of_ble_eq_true rfl) rfl rfl (fun h1 q1 => ?_)
  refine g_goto 91 dX7_turnOnce_88 (by decide) ?_
  exact g_vret dX7_turnOnce_91 rfl ⟨Nat.zero_le _, Nat.zero_le _⟩ (⟨rfl, q1⟩)

set_option maxRecDepth 100000 in
set_option maxHeartbeats 4000000 in
theorem ev_once4o {h : List aC} {p n m : Nat} {F S A : List Nat} (hP : PA h p n m F S A) {f : Nat → Pr} (hf : ∀ i, i < m → fOf F S A i = f i) (hm : m ≤ 6) (hn : n ≤ 13) (h0n : 0 < n) (hb : bf n m f) {n2 m2 : Nat} {F2 S2 A2 : List Nat} (hP2 : PA h (p + 4) n2 m2 F2 S2 A2) (u : Nat) (hu : u ≤ 12) (hodd : u % 2 = 1) : Ev mX7_turnOnce 4 0 0 [.ref p, .ref (p + 4), .int (nI 4), .int (nI u)] h (pq none (fun h2 => ∃ F1 S1 A1, PA h2 p n m F1 S1 A1 ∧ (∀ i, i < m → fOf F1 S1 A1 i = tOne n m 4 u f i) ∧ (∃ n2 m2 F2 S2 A2, PA h2 (p + 4) n2 m2 F2 S2 A2) ∧ Smo p (p + 8) h h2)) := by
  obtain ⟨-, -, -, -, lF, lS, lA⟩ := id hP
  refine Ev.of pX7_turnOnce (Nat.le_of_ble_eq_true rfl) ?_
  show G mX7_turnOnce (rmD 4 0 0) none _ 0 0 0 [(0, .ref p), (1, .ref (p + 4)), (2, .int (nI 4)), (3, .int (nI u))] [] h
  refine g_iload_n dX7_turnOnce_0 2 rfl ?_
  refine g_tableIn 73 dX7_turnOnce_1 (by decide +kernel) (by decide +kernel) (off := 72) (by decide +kernel) (by decide) ?_
  refine g_aload_n dX7_turnOnce_73 0 rfl ?_
  refine g_aload_n dX7_turnOnce_74 1 rfl ?_
  refine g_iload_n dX7_turnOnce_75 3 rfl ?_
  refine g_callSq (st1 := []) dX7_turnOnce_76 (ev_swap hP hf hm hn h0n hb hP2 u hu hodd) oX7_swap wsX7_swap wmX7_44 rfl ⟨(Nat.le_of_ble_eq_true rfl), (Nat.le_of_ble_eq_true rfl)⟩ ⟨Nat.zero_le _, Nat.zero_le _⟩ (Nat.le_of_ble_eq_true rfl) rfl rfl (fun h1 q1 => ?_)
  refine g_goto 91 dX7_turnOnce_79 (by decide) ?_
  exact g_vret dX7_turnOnce_91 rfl ⟨Nat.zero_le _, Nat.zero_le _⟩ (by obtain ⟨F1, S1, A1, g1, g2, g3⟩ := q1; exact ⟨rfl, F1, S1, A1, g1, fun i hi => (g2 i hi).trans (if_pos hodd).symm, g3⟩)

set_option maxRecDepth 100000 in
set_option maxHeartbeats 4000000 in
theorem ev_once4e {h : List aC} {p n m : Nat} {F S A : List Nat} (hP : PA h p n m F S A) {f : Nat → Pr} (hf : ∀ i, i < m → fOf F S A i = f i) (hm : m ≤ 6) (hn : n ≤ 13) (h0n : 0 < n) (hb : bf n m f) {n2 m2 : Nat} {F2 S2 A2 : List Nat} (hP2 : PA h (p + 4) n2 m2 F2 S2 A2) (u : Nat) (hu : u ≤ 12) (hodd : ¬ u % 2 = 1) : Ev mX7_turnOnce 4 0 0 [.ref p, .ref (p + 4), .int (nI 4), .int (nI u)] h (pq none (fun h2 => ∃ F1 S1 A1, PA h2 p n m F1 S1 A1 ∧ (∀ i, i < m → fOf F1 S1 A1 i = tOne n m 4 u f i) ∧ (∃ n2 m2 F2 S2 A2, PA h2 (p + 4) n2 m2 F2 S2 A2) ∧ Smo p (p + 8) h h2)) := by
  obtain ⟨-, -, -, -, lF, lS, lA⟩ := id hP
  refine Ev.of pX7_turnOnce (Nat.le_of_ble_eq_true rfl) ?_
  show G mX7_turnOnce (rmD 4 0 0) none _ 0 0 0 [(0, .ref p), (1, .ref (p + 4)), (2, .int (nI 4)), (3, .int (nI u))] [] h
  refine g_iload_n dX7_turnOnce_0 2 rfl ?_
  refine g_tableIn 73 dX7_turnOnce_1 (by decide +kernel) (by decide +kernel) (off := 72) (by decide +kernel) (by decide) ?_
  refine g_aload_n dX7_turnOnce_73 0 rfl ?_
  refine g_aload_n dX7_turnOnce_74 1 rfl ?_
  refine g_iload_n dX7_turnOnce_75 3 rfl ?_
  refine g_callSq (st1 := []) dX7_turnOnce_76 (ev_swap0 hP (p + 4) u hu (by omega)) oX7_swap wsX7_swap wmX7_44 rfl ⟨(Nat.le_of_ble_eq_true rfl), (Nat.le_of_ble_eq_true rfl)⟩ ⟨Nat.zero_le _, Nat.zero_le _⟩ (Nat.le_of_ble_eq_true rfl) rfl rfl (fun h1 q1 => ?_)
  refine g_goto 91 dX7_turnOnce_79 (by decide) ?_
  exact g_vret dX7_turnOnce_91 rfl ⟨Nat.zero_le _, Nat.zero_le _⟩ (by rw [q1]; exact ⟨rfl, F, S, A, hP, fun i hi => (hf i hi).trans (if_neg hodd).symm, ⟨_, _, _, _, _, hP2⟩, Smo.rf⟩)

theorem ev_once {h : List aC} {p n m : Nat} {F S A : List Nat} (hP : PA h p n m F S A) {f : Nat → Pr} (hf : ∀ i, i < m → fOf F S A i = f i) (hm : m ≤ 6) (hn : n ≤ 13) (h0n : 0 < n) (hb : bf n m f) {n2 m2 : Nat} {F2 S2 A2 : List Nat} (hP2 : PA h (p + 4) n2 m2 F2 S2 A2) (kind u : Nat) (hk : kind ≤ 5) (hu : u ≤ 12) : Ev mX7_turnOnce 4 0 0 [.ref p, .ref (p + 4), .int (nI kind), .int (nI u)] h (pq none (fun h2 => ∃ F1 S1 A1, PA h2 p n m F1 S1 A1 ∧ (∀ i, i < m → fOf F1 S1 A1 i = tOne n m kind u f i) ∧ (∃ n2 m2 F2 S2 A2, PA h2 (p + 4) n2 m2 F2 S2 A2) ∧ Smo p (p + 8) h h2)) := by
  rcases (show kind = 0 ∨ kind = 1 ∨ kind = 2 ∨ kind = 3 ∨ kind = 4 ∨ kind = 5 by omega) with rfl | rfl | rfl | rfl | rfl | rfl
  · exact ev_once0 hP hf hm hn h0n hb hP2 u hu
  · exact ev_once1 hP hf hm hn h0n hb hP2 u hu
  · exact ev_once2 hP hf hm hn h0n hb hP2 u hu
  · exact ev_once3 hP hf hm hn h0n hb hP2 u hu
  · by_cases hodd : u % 2 = 1
    · exact ev_once4o hP hf hm hn h0n hb hP2 u hu hodd
    · exact ev_once4e hP hf hm hn h0n hb hP2 u hu hodd
  · exact ev_once5 hP hf hm hn h0n hb hP2 u hu
def tAll (n m : Nat) (K U : List Nat) (f : Nat → Pr) : Nat → Nat → Pr
  | 0 => f
  | t + 1 => tOne n m (K.getD t 0) (U.getD t 0) (tAll n m K U f t)
theorem tAll_bf {n m : Nat} (h0 : 0 < n) (K U : List Nat) {f : Nat → Pr} (b : bf n m f) : ∀ t, bf n m (tAll n m K U f t)
  | 0 => b
  | t + 1 => tOne_bf h0 _ _ (tAll_bf h0 K U b t)

set_option maxRecDepth 100000 in
set_option maxHeartbeats 4000000 in
theorem ev_tcopy {h : List aC} {t a : Nat} {K U : List Nat} (hT : TA h t a K U) {t2 a2 : Nat} {K2 U2 : List Nat} (hT2 : TA h t2 a2 K2 U2) (hd : t + 3 ≤ t2 ∨ t2 + 3 ≤ t) : Ev mX7_copyFrom 1 0 0 [.ref t, .ref t2] h (pq none (fun h2 => TA h2 t a2 K2 U2 ∧ Smo t (t + 3) h h2)) := by
  obtain ⟨-, -, -, lK, lU⟩ := id hT
  obtain ⟨-, -, -, kK, kU⟩ := id hT2
  refine Ev.of pX7_copyFrom (Nat.le_of_ble_eq_true rfl) ?_
  show G mX7_copyFrom (rmD 1 0 0) none _ 0 0 0 [(0, .ref t), (1, .ref t2)] [] h
  refine g_aload_n dX7_copyFrom_0 0 rfl ?_
  refine g_aload_n dX7_copyFrom_1 1 rfl ?_
  refine g_getf dX7_copyFrom_2 kX7 wfX7_18 (Nat.le_of_ble_eq_true rfl) (hT2.1) rfl ?_
  refine g_putv dX7_copyFrom_5 kX7 wfX7_18 (Nat.le_of_ble_eq_true rfl) rfl (fun _ _ => ⟨rfl, rfl⟩) (hT.1) (Nat.le_of_ble_eq_true rfl) (fs' := [.ref (t + 1), .ref (t + 2), .int (nI a2)]) rfl (fun h1 e1 => ?_)
  have f1_t : rd h1 t = some (.inr (7, [.ref (t + 1), .ref (t + 2), .int (nI a2)])) := by rw [e1]; exact rd_wr_eq (hT.1)
  have f1_t2 : rd h1 t2 = some (.inr (7, [.ref (t2 + 1), .ref (t2 + 2), .int (nI a2)])) := by rw [e1, rd_wr_ne (by omega)]; exact hT2.1
  have f1_t_1 : rd h1 (t + 1) = some (.inl ((K).map nI)) := by rw [e1, rd_wr_ne (by omega)]; exact hT.2.1
  have f1_t_2 : rd h1 (t + 2) = some (.inl ((U).map nI)) := by rw [e1, rd_wr_ne (by omega)]; exact hT.2.2.1
  have f1_t2_1 : rd h1 (t2 + 1) = some (.inl ((K2).map nI)) := by rw [e1, rd_wr_ne (by omega)]; exact hT2.2.1
  have f1_t2_2 : rd h1 (t2 + 2) = some (.inl ((U2).map nI)) := by rw [e1, rd_wr_ne (by omega)]; exact hT2.2.2.1
  refine g_aload_n dX7_copyFrom_8 1 rfl ?_
  refine g_getf dX7_copyFrom_9 kX7 wfX7_9 (Nat.le_of_ble_eq_true rfl) (f1_t2) rfl ?_
  refine g_iconst (v := nI 0) dX7_copyFrom_12 (by decide +kernel) ?_
  refine g_aload_n dX7_copyFrom_13 0 rfl ?_
  refine g_getf dX7_copyFrom_14 kX7 wfX7_9 (Nat.le_of_ble_eq_true rfl) (f1_t) rfl ?_
  refine g_iconst (v := nI 0) dX7_copyFrom_17 (by decide +kernel) ?_
  refine g_bipush (v := nI 6) dX7_copyFrom_18 (by decide +kernel) ?_
  refine g_copyv dX7_copyFrom_20 wmX7_22 (f1_t2_1) (f1_t_1) (by simp [kK]) (by simp [lK]) (by omega) ⟨(Nat.le_of_ble_eq_true rfl), by decide +kernel⟩ (Nat.le_of_ble_eq_true rfl) (fun h2 e2 => ?_)
  have f2_t_1 : rd h2 (t + 1) = some (.inl ((K2).map nI)) := by rw [e2]; exact rd_wr_eq (f1_t_1)
  have f2_t : rd h2 t = some (.inr (7, [.ref (t + 1), .ref (t + 2), .int (nI a2)])) := by rw [e2, rd_wr_ne (by omega)]; exact f1_t
  have f2_t2 : rd h2 t2 = some (.inr (7, [.ref (t2 + 1), .ref (t2 + 2), .int (nI a2)])) := by rw [e2, rd_wr_ne (by omega)]; exact f1_t2
  have f2_t_2 : rd h2 (t + 2) = some (.inl ((U).map nI)) := by rw [e2, rd_wr_ne (by omega)]; exact f1_t_2
  have f2_t2_1 : rd h2 (t2 + 1) = some (.inl ((K2).map nI)) := by rw [e2, rd_wr_ne (by omega)]; exact f1_t2_1
  have f2_t2_2 : rd h2 (t2 + 2) = some (.inl ((U2).map nI)) := by rw [e2, rd_wr_ne (by omega)]; exact f1_t2_2
  refine g_aload_n dX7_copyFrom_23 1 rfl ?_
  refine g_getf dX7_copyFrom_24 kX7 wfX7_15 (Nat.le_of_ble_eq_true rfl) (f2_t2) rfl ?_
  refine g_iconst (v := nI 0) dX7_copyFrom_27 (by decide +kernel) ?_
  refine g_aload_n dX7_copyFrom_28 0 rfl ?_
  refine g_getf dX7_copyFrom_29 kX7 wfX7_15 (Nat.le_of_ble_eq_true rfl) (f2_t) rfl ?_
  refine g_iconst (v := nI 0) dX7_copyFrom_32 (by decide +kernel) ?_
  refine g_bipush (v := nI 6) dX7_copyFrom_33 (by decide +kernel) ?_
  refine g_copyv dX7_copyFrom_35 wmX7_22 (f2_t2_2) (f2_t_2) (by simp [kU]) (by simp [lU]) (by omega) ⟨(Nat.le_of_ble_eq_true rfl), by decide +kernel⟩ (Nat.le_of_ble_eq_true rfl) (fun h3 e3 => ?_)
  have f3_t_2 : rd h3 (t + 2) = some (.inl ((U2).map nI)) := by rw [e3]; exact rd_wr_eq (f2_t_2)
  have f3_t : rd h3 t = some (.inr (7, [.ref (t + 1), .ref (t + 2), .int (nI a2)])) := by rw [e3, rd_wr_ne (by omega)]; exact f2_t
  have f3_t2 : rd h3 t2 = some (.inr (7, [.ref (t2 + 1), .ref (t2 + 2), .int (nI a2)])) := by rw [e3, rd_wr_ne (by omega)]; exact f2_t2
  have f3_t_1 : rd h3 (t + 1) = some (.inl ((K2).map nI)) := by rw [e3, rd_wr_ne (by omega)]; exact f2_t_1
  have f3_t2_1 : rd h3 (t2 + 1) = some (.inl ((K2).map nI)) := by rw [e3, rd_wr_ne (by omega)]; exact f2_t2_1
  have f3_t2_2 : rd h3 (t2 + 2) = some (.inl ((U2).map nI)) := by rw [e3, rd_wr_ne (by omega)]; exact f2_t2_2
  exact g_vret dX7_copyFrom_38 rfl ⟨Nat.zero_le _, Nat.zero_le _⟩ (⟨rfl, ⟨f3_t, f3_t_1, f3_t_2, kK, kU⟩, (fun q hq => by rw [e3, rd_wr_ne (by omega), e2, rd_wr_ne (by omega), e1, rd_wr_ne (by omega)])⟩)

set_option maxRecDepth 100000 in
set_option maxHeartbeats 4000000 in
theorem ev_tappend {h : List aC} {t a : Nat} {K U : List Nat} (hT : TA h t a K U) (ha : a < 6) (x y : Nat) : Ev mX7_append 1 0 0 [.ref t, .int (nI x), .int (nI y)] h (pq none (fun h2 => TA h2 t (a + 1) (K.set a x) (U.set a y) ∧ Smo t (t + 3) h h2)) := by
  obtain ⟨-, -, -, lK, lU⟩ := id hT
  refine Ev.of pX7_append (Nat.le_of_ble_eq_true rfl) ?_
  show G mX7_append (rmD 1 0 0) none _ 0 0 0 [(0, .ref t), (1, .int (nI x)), (2, .int (nI y))] [] h
  refine g_aload_n dX7_append_0 0 rfl ?_
  refine g_getf dX7_append_1 kX7 wfX7_18 (Nat.le_of_ble_eq_true rfl) (hT.1) rfl ?_
  refine g_bipush (v := nI 6) dX7_append_4 (by decide +kernel) ?_
  refine g_icmp_geN 39 dX7_append_6 (by decide) (by omega) (by omega) (fun z => absurd z (by omega)) (fun c6 => ?_)
  refine g_aload_n dX7_append_9 0 rfl ?_
  refine g_getf dX7_append_10 kX7 wfX7_9 (Nat.le_of_ble_eq_true rfl) (hT.1) rfl ?_
  refine g_aload_n dX7_append_13 0 rfl ?_
  refine g_getf dX7_append_14 kX7 wfX7_18 (Nat.le_of_ble_eq_true rfl) (hT.1) rfl ?_
  refine g_iload_n dX7_append_17 1 rfl ?_
  refine g_iasN dX7_append_18 (hT.2.1) (by omega) (by omega) (fun h1 e1 => ?_)
  have f1_t_1 : rd h1 (t + 1) = some (.inl (((K).set a x).map nI)) := by rw [e1]; exact rd_wr_eq (hT.2.1)
  have f1_t : rd h1 t = some (.inr (7, [.ref (t + 1), .ref (t + 2), .int (nI a)])) := by rw [e1, rd_wr_ne (by omega)]; exact hT.1
  have f1_t_2 : rd h1 (t + 2) = some (.inl ((U).map nI)) := by rw [e1, rd_wr_ne (by omega)]; exact hT.2.2.1
  refine g_aload_n dX7_append_19 0 rfl ?_
  refine g_getf dX7_append_20 kX7 wfX7_15 (Nat.le_of_ble_eq_true rfl) (f1_t) rfl ?_
  refine g_aload_n dX7_append_23 0 rfl ?_
  refine g_getf dX7_append_24 kX7 wfX7_18 (Nat.le_of_ble_eq_true rfl) (f1_t) rfl ?_
  refine g_iload_n dX7_append_27 2 rfl ?_
  refine g_iasN dX7_append_28 (f1_t_2) (by omega) (by omega) (fun h2 e2 => ?_)
  have f2_t_2 : rd h2 (t + 2) = some (.inl (((U).set a y).map nI)) := by rw [e2]; exact rd_wr_eq (f1_t_2)
  have f2_t : rd h2 t = some (.inr (7, [.ref (t + 1), .ref (t + 2), .int (nI a)])) := by rw [e2, rd_wr_ne (by omega)]; exact f1_t
  have f2_t_1 : rd h2 (t + 1) = some (.inl (((K).set a x).map nI)) := by rw [e2, rd_wr_ne (by omega)]; exact f1_t_1
  refine g_aload_n dX7_append_29 0 rfl ?_
  refine g_dup dX7_append_30 rfl ?_
  refine g_getf dX7_append_31 kX7 wfX7_18 (Nat.le_of_ble_eq_true rfl) (f2_t) rfl ?_
  refine g_iconst (v := nI 1) dX7_append_34 (by decide +kernel) ?_
  refine g_iaddN dX7_append_35 ?_
  refine g_putv dX7_append_36 kX7 wfX7_18 (Nat.le_of_ble_eq_true rfl) rfl (fun _ _ => ⟨rfl, rfl⟩) (f2_t) (Nat.le_of_ble_eq_true rfl) (fs' := [.ref (t + 1), .ref (t + 2), .int (nI (a + 1))]) rfl (fun h3 e3 => ?_)
  have f3_t : rd h3 t = some (.inr (7, [.ref (t + 1), .ref (t + 2), .int (nI (a + 1))])) := by rw [e3]; exact rd_wr_eq (f2_t)
  have f3_t_1 : rd h3 (t + 1) = some (.inl (((K).set a x).map nI)) := by rw [e3, rd_wr_ne (by omega)]; exact f2_t_1
  have f3_t_2 : rd h3 (t + 2) = some (.inl (((U).set a y).map nI)) := by rw [e3, rd_wr_ne (by omega)]; exact f2_t_2
  exact g_vret dX7_append_39 rfl ⟨Nat.zero_le _, Nat.zero_le _⟩ (⟨rfl, ⟨f3_t, f3_t_1, f3_t_2, by simp [lK], by simp [lU]⟩, (fun q hq => by rw [e3, rd_wr_ne (by omega), e2, rd_wr_ne (by omega), e1, rd_wr_ne (by omega)])⟩)

set_option maxRecDepth 100000 in
set_option maxHeartbeats 4000000 in
theorem lp_turnAll {h0 : List aC} {p n m t a : Nat} {K U : List Nat} {f : Nat → Pr} (hm : m ≤ 6) (hn : n ≤ 13) (h0n : 0 < n) (hb : bf n m f) (ha : a ≤ 6) (hKU : ∀ i, i < a → K.getD i 0 ≤ 5 ∧ U.getD i 0 ≤ 12) (hd : t + 3 ≤ p ∨ p + 8 ≤ t) : ∀ j k (h : List aC) (F S A : List Nat) (n2 m2 : Nat) (F2 S2 A2 : List Nat), k + j = a → TA h t a K U → PA h p n m F S A → PA h (p + 4) n2 m2 F2 S2 A2 → (∀ i, i < m → fOf F S A i = tAll n m K U f k i) → Smo p (p + 8) h0 h → G mX7_turnAll (rmD 5 0 0) none (pq none (fun h2 => ∃ F1 S1 A1, PA h2 p n m F1 S1 A1 ∧ (∀ i, i < m → fOf F1 S1 A1 i = tAll n m K U f a i) ∧ (∃ n2 m2 F2 S2 A2, PA h2 (p + 4) n2 m2 F2 S2 A2) ∧ Smo p (p + 8) h0 h2)) 0 0 2 [(3, .int (nI k)), (0, .ref t), (1, .ref p), (2, .ref (p + 4))] [] h := by
  intro j
  induction j with
  | zero =>
    intro k h F S A n2 m2 F2 S2 A2 hk hT hP hP2 hf hS
    obtain ⟨-, -, -, lK, lU⟩ := id hT
    obtain rfl : k = a := by omega
    refine g_iload_n dX7_turnAll_2 0 rfl ?_
    refine g_aload_n dX7_turnAll_3 1 rfl ?_
    refine g_getf dX7_turnAll_4 kX7 wfX7_18 (Nat.le_of_ble_eq_true rfl) (hT.1) rfl ?_
    refine g_icmp_geN 33 dX7_turnAll_7 (by decide) (by omega) (by omega) (fun c7 => ?_) (fun z => absurd z (by omega))
    exact g_vret dX7_turnAll_33 rfl ⟨Nat.zero_le _, Nat.zero_le _⟩ (⟨rfl, F, S, A, hP, hf, ⟨_, _, _, _, _, hP2⟩, hS⟩)
  | succ j ih =>
    intro k h F S A n2 m2 F2 S2 A2 hk hT hP hP2 hf hS
    obtain ⟨-, -, -, lK, lU⟩ := id hT
    obtain ⟨x1, x2⟩ := hKU k (by omega)
    refine g_iload_n dX7_turnAll_2 0 rfl ?_
    refine g_aload_n dX7_turnAll_3 1 rfl ?_
    refine g_getf dX7_turnAll_4 kX7 wfX7_18 (Nat.le_of_ble_eq_true rfl) (hT.1) rfl ?_
    refine g_icmp_geN 33 dX7_turnAll_7 (by decide) (by omega) (by omega) (fun z => absurd z (by omega)) (fun c7 => ?_)
    refine g_aload_n dX7_turnAll_10 2 rfl ?_
    refine g_aload_n dX7_turnAll_11 3 rfl ?_
    refine g_aload_n dX7_turnAll_12 1 rfl ?_
    refine g_getf dX7_turnAll_13 kX7 wfX7_9 (Nat.le_of_ble_eq_true rfl) (hT.1) rfl ?_
    refine g_iload_n dX7_turnAll_16 0 rfl ?_
    refine g_ialN dX7_turnAll_17 (hT.2.1) (by omega) (by omega) ?_
    refine g_aload_n dX7_turnAll_18 1 rfl ?_
    refine g_getf dX7_turnAll_19 kX7 wfX7_15 (Nat.le_of_ble_eq_true rfl) (hT.1) rfl ?_
    refine g_iload_n dX7_turnAll_22 0 rfl ?_
    refine g_ialN dX7_turnAll_23 (hT.2.2.1) (by omega) (by omega) ?_
    refine g_callSq (st1 := []) dX7_turnAll_24 (ev_once hP hf hm hn h0n (tAll_bf h0n K U hb k) hP2 _ _ x1 x2) oX7_turnOnce wsX7_turnOnce wmX7_28 rfl ⟨(Nat.le_of_ble_eq_true rfl), (Nat.le_of_ble_eq_true rfl)⟩ ⟨Nat.zero_le _, Nat.zero_le _⟩ (Nat.le_of_ble_eq_true rfl) rfl rfl (fun h1 q1 => ?_)
    obtain ⟨F1, S1, A1, g1, g2, ⟨n2b, m2b, F2b, S2b, A2b, g3⟩, g4⟩ := q1
    have b1_t := hT.mv g4 (by omega)
    refine g_iinc (q := 0) (v := nI (k + 1)) (ls' := [(3, .int (nI (k + 1))), (0, .ref t), (1, .ref p), (2, .ref (p + 4))]) dX7_turnAll_27 rfl (inc1 _) (Nat.le_of_ble_eq_true rfl) rfl ?_
    refine g_goto 2 dX7_turnAll_30 (by decide) ?_
    exact ih (k + 1) h1 F1 S1 A1 n2b m2b F2b S2b A2b (by omega) b1_t g1 g3 g2 (hS.tr g4)

set_option maxRecDepth 100000 in
set_option maxHeartbeats 4000000 in
theorem ev_turnAll {h : List aC} {p n m t a : Nat} {K U F S A F2 S2 A2 : List Nat} {n2 m2 : Nat} {f : Nat → Pr} (hT : TA h t a K U) (hP : PA h p n m F S A) (hP2 : PA h (p + 4) n2 m2 F2 S2 A2) (hf : ∀ i, i < m → fOf F S A i = f i) (hm : m ≤ 6) (hn : n ≤ 13) (h0n : 0 < n) (hb : bf n m f) (ha : a ≤ 6) (hKU : ∀ i, i < a → K.getD i 0 ≤ 5 ∧ U.getD i 0 ≤ 12) (hd : t + 3 ≤ p ∨ p + 8 ≤ t) : Ev mX7_turnAll 5 0 0 [.ref t, .ref p, .ref (p + 4)] h (pq none (fun h2 => ∃ F1 S1 A1, PA h2 p n m F1 S1 A1 ∧ (∀ i, i < m → fOf F1 S1 A1 i = tAll n m K U f a i) ∧ (∃ n2 m2 F2 S2 A2, PA h2 (p + 4) n2 m2 F2 S2 A2) ∧ Smo p (p + 8) h h2)) := by
  refine Ev.of pX7_turnAll (Nat.le_of_ble_eq_true rfl) ?_
  show G mX7_turnAll (rmD 5 0 0) none _ 0 0 0 [(0, .ref t), (1, .ref p), (2, .ref (p + 4))] [] h
  refine g_iconst (v := nI 0) dX7_turnAll_0 (by decide +kernel) ?_
  refine g_istore_n (ls' := [(3, .int (nI 0)), (0, .ref t), (1, .ref p), (2, .ref (p + 4))]) dX7_turnAll_1 (Nat.le_of_ble_eq_true rfl) rfl ?_
  exact lp_turnAll hm hn h0n hb ha hKU hd a 0 h F S A n2 m2 F2 S2 A2 (by omega) hT hP hP2 hf Smo.rf
