def tStep (W : List Nat) (i : Nat) (c : Cr) : Option Cr := if W.getD i 0 = 110 then tSize c (nmV W (i + 1) 2) else if W.getD i 0 = 112 then tPair c (nmV W (i + 1) 2) (nmV W (i + 3) 2) else if W.getD i 0 = 97 then tAdder c (nmV W (i + 1) 1) (nmV W (i + 2) 2) else tTurn c (nmV W (i + 1) 1) (nmV W (i + 2) 2)
theorem some_of {α : Type} {p : Prop} [Decidable p] {x y : α} (h : (if p then some x else none) = some y) : p ∧ x = y := by
  by_cases q : p
  · rw [if_pos q] at h; exact ⟨q, Option.some.inj h⟩
  · rw [if_neg q] at h; cases h
theorem tSize_ok {c c2 : Cr} {x : Nat} (hx : x < 100) (h : tSize c x = some c2) : okCr c2 := by
  obtain ⟨q, rfl⟩ := some_of h
  obtain ⟨z1, z2, z3⟩ := rSize_in (by omega) q
  exact ⟨z1, z2, z3, Nat.zero_le _, fun k hk => absurd hk (Nat.not_lt_zero k), Nat.zero_le _, fun k hk => absurd hk (Nat.not_lt_zero k), fun _ _ _ _ => Or.inl rfl, fun _ _ _ => rfl⟩
theorem okPr_upF {n m k : Nat} {f : Nat → Pr} {v : Pr} (h : ∀ i, i < m → i ≠ k → okPr n (f i)) (hv : okPr n v) : ∀ i, i < m → okPr n (upF f k v i) := fun i hi => by
  by_cases q : i = k
  · subst q; rw [upF_eq]; exact hv
  · rw [upF_ne q]; exact h i hi q
theorem tPair_ok {c c2 : Cr} {x y : Nat} (ok : okCr c) (hx : x < 2 ^ 31) (hy : y < 2 ^ 31) (h : tPair c x y = some c2) : okCr c2 := by
  obtain ⟨q, rfl⟩ := some_of h
  obtain ⟨k1, k2, k3, k4, k5, k6⟩ := ok
  obtain ⟨z1, z2, z3, z4, z5, z6⟩ := rPair_in (by omega) hx hy q
  exact ⟨k1, k2, k3, by show c.2.1 + 1 ≤ _; omega, okPr_upF (fun i hi hq => k5 i (by have y : i < c.2.1 + 1 := hi; omega)) ⟨z1, z2, z3, z4, z6, show 0 < c.1 by omega⟩, k6⟩
theorem tAdder_ok {c c2 : Cr} {x y : Nat} (ok : okCr c) (hx : x < 2 ^ 31) (hy : y < 2 ^ 31) (h : tAdder c x y = some c2) : okCr c2 := by
  obtain ⟨q, rfl⟩ := some_of h
  obtain ⟨k1, k2, k3, k4, k5, k6⟩ := ok
  obtain ⟨z1, z2⟩ := rAdder_in (by omega) (by omega) hx hy q
  obtain ⟨y1, y2, y3, y4, y5, -⟩ := k5 x z1
  exact ⟨k1, k2, k3, k4, okPr_upF (fun i hi _ => k5 i hi) ⟨y1, y2, y3, y4, y5, z2⟩, k6⟩
theorem tTurn_ok {c c2 : Cr} {x y : Nat} (ok : okCr c) (hx : x < 2 ^ 31) (hy : y < 2 ^ 31) (h : tTurn c x y = some c2) : okCr c2 := by
  obtain ⟨q, rfl⟩ := some_of h
  obtain ⟨k1, k2, k3, k4, k5, k6, k7, k8⟩ := ok
  obtain ⟨z1, z2, z3⟩ := rTurn_in hx hy q
  refine ⟨k1, k2, k3, k4, k5, by show c.2.2.2.1 + 1 ≤ 6; omega, fun i hi => ?_, k8⟩
  show (upT c.2.2.2.2.1 c.2.2.2.1 (x, y) i).1 ≤ 5 ∧ (upT c.2.2.2.2.1 c.2.2.2.1 (x, y) i).2 ≤ 12
  by_cases e : i = c.2.2.2.1
  · subst e; rw [upT_eq]; exact ⟨z1, z2⟩
  · rw [upT_ne e]; exact k7 i (by have y : i < c.2.2.2.1 + 1 := hi; omega)
/-- a statement stands at letter i -/
def stm (W : List Nat) (am i : Nat) : Prop := lnO (W.getD i 0) ≠ 0 ∧ i + lnO (W.getD i 0) ≤ am ∧ ∀ q, 1 ≤ q → q + 1 < lnO (W.getD i 0) → 48 ≤ W.getD (i + q) 0 ∧ W.getD (i + q) 0 ≤ 57
theorem lnO_in {c : Nat} (h : lnO c ≠ 0) : (c = 110 ∧ lnO c = 4) ∨ (c = 112 ∧ lnO c = 6) ∨ (c = 97 ∧ lnO c = 5) ∨ (c = 116 ∧ lnO c = 5) := by
  unfold lnO at h ⊢
  by_cases h1 : c = 110
  · exact Or.inl ⟨h1, if_pos h1⟩
  · rw [if_neg h1] at h ⊢
    by_cases h2 : c = 112
    · exact Or.inr (Or.inl ⟨h2, if_pos h2⟩)
    · rw [if_neg h2] at h ⊢
      by_cases h3 : c = 97 ∨ c = 116
      · rw [if_pos h3]
        rcases h3 with h3 | h3
        · exact Or.inr (Or.inr (Or.inl ⟨h3, rfl⟩))
        · exact Or.inr (Or.inr (Or.inr ⟨h3, rfl⟩))
      · rw [if_neg h3] at h; exact absurd rfl h
theorem tStep_ok {W : List Nat} {am i : Nat} {c c2 : Cr} (hs : stm W am i) (ok : okCr c) (h : tStep W i c = some c2) : okCr c2 := by
  have nv : ∀ p d, d ≤ 2 → (∀ q, q < d → 48 ≤ W.getD (p + q) 0 ∧ W.getD (p + q) 0 ≤ 57) → nmV W p d < 100 := fun p d hd hq => by
    have h1 := nmV_lt d hq
    have h2 : 10 ^ d ≤ 10 ^ 2 := Nat.pow_le_pow_right (by decide) hd
    omega
  unfold tStep at h
  obtain ⟨s1, s2, s3⟩ := hs
  rcases lnO_in s1 with ⟨e, el⟩ | ⟨e, el⟩ | ⟨e, el⟩ | ⟨e, el⟩
  · rw [if_pos e] at h
    exact tSize_ok (nv _ 2 (by omega) (fun q hq => by rw [Nat.add_assoc]; exact s3 _ (by omega) (by omega))) h
  · rw [if_neg (by omega), if_pos e] at h
    have a := nv (i + 1) 2 (by omega) (fun q hq => by rw [Nat.add_assoc]; exact s3 _ (by omega) (by omega))
    have b := nv (i + 3) 2 (by omega) (fun q hq => by rw [Nat.add_assoc]; exact s3 _ (by omega) (by omega))
    exact tPair_ok ok (by omega) (by omega) h
  · rw [if_neg (by omega), if_neg (by omega), if_pos e] at h
    have a := nv (i + 1) 1 (by omega) (fun q hq => by rw [Nat.add_assoc]; exact s3 _ (by omega) (by omega))
    have b := nv (i + 2) 2 (by omega) (fun q hq => by rw [Nat.add_assoc]; exact s3 _ (by omega) (by omega))
    exact tAdder_ok ok (by omega) (by omega) h
  · rw [if_neg (by omega), if_neg (by omega), if_neg (by omega)] at h
    have a := nv (i + 1) 1 (by omega) (fun q hq => by rw [Nat.add_assoc]; exact s3 _ (by omega) (by omega))
    have b := nv (i + 2) 2 (by omega) (fun q hq => by rw [Nat.add_assoc]; exact s3 _ (by omega) (by omega))
    exact tTurn_ok ok (by omega) (by omega) h

set_option maxRecDepth 100000 in
set_option maxHeartbeats 4000000 in
theorem ev_come_110 {h : List aC} {am : Nat} {W : List Nat} (hL : LtA h am W) (ha : am ≤ 72) {s : Nat} {c : Cr} (H : StA h s c) (ok : okCr c) (hd : s + 11 ≤ 34 ∨ 36 ≤ s) (i : Nat) (hs : stm W am i) (e : W.getD i 0 = 110) (el : lnO (W.getD i 0) = 4) : Ev mX1_comeOn 5 0 0 [.ref 34, .ref s, .int (nI i)] h (oP s (tSize c (nmV W (i + 1) 2)) c h) := by
  have lW := hL.2.2
  obtain ⟨s1, s2, s3⟩ := hs
  have nv0 := nmV_lt (W := W) (i := i + 1) 2 (fun q hq => by rw [Nat.add_assoc]; exact s3 _ (by omega) (by omega))
  refine Ev.of pX1_comeOn (Nat.le_of_ble_eq_true rfl) ?_
  show G mX1_comeOn (rmD 5 0 0) none _ 0 0 0 [(0, .ref 34), (1, .ref s), (2, .int (nI i))] [] h
  refine g_aload_n dX1_comeOn_0 0 rfl ?_
  refine g_getf dX1_comeOn_1 kX1 wfX1_9 (Nat.le_of_ble_eq_true rfl) (hL.1) rfl ?_
  refine g_iload_n dX1_comeOn_4 2 rfl ?_
  refine g_ialN dX1_comeOn_5 (hL.2.1) (by omega) (by omega) ?_
  refine g_top (congrArg nI e) ?_
  refine g_lookup 40 dX1_comeOn_6 (by decide +kernel) (off := 34) (by decide +kernel) (by decide) ?_
  refine g_aload_n dX1_comeOn_40 1 rfl ?_
  refine g_aload_n dX1_comeOn_41 0 rfl ?_
  refine g_iload_n dX1_comeOn_42 2 rfl ?_
  refine g_iconst (v := nI 1) dX1_comeOn_43 (by decide +kernel) ?_
  refine g_iaddN dX1_comeOn_44 ?_
  refine g_iconst (v := nI 2) dX1_comeOn_45 (by decide +kernel) ?_
  refine g_callVp dX1_comeOn_46 (ev_number hL ha (i + 1) 2 (by omega) (by omega) (fun q hq => by rw [Nat.add_assoc]; exact s3 _ (by omega) (by omega))) oX1_number wiX1_number weX1_number wmX1_33 kX1 (hL.1) rfl ⟨(Nat.le_of_ble_eq_true rfl), (Nat.le_of_ble_eq_true rfl)⟩ ⟨Nat.zero_le _, Nat.zero_le _⟩ (Nat.le_of_ble_eq_true rfl) rfl ?_
  refine g_callSq (st1 := [.int (nI (bI ((tSize c (nmV W (i + 1) 2)).isSome)))]) dX1_comeOn_49 (ev_lresize H ok (nmV W (i + 1) 2) (by omega)) oX1_resize wsX1_resize wmX1_36 rfl ⟨(Nat.le_of_ble_eq_true rfl), (Nat.le_of_ble_eq_true rfl)⟩ ⟨Nat.zero_le _, Nat.zero_le _⟩ (Nat.le_of_ble_eq_true rfl) rfl rfl (fun h1 q1 => ?_)
  exact g_zret dX1_comeOn_52 rfl (narB _) ⟨Nat.zero_le _, Nat.zero_le _⟩ (⟨rfl, q1⟩)

set_option maxRecDepth 100000 in
set_option maxHeartbeats 4000000 in
theorem ev_come_112 {h : List aC} {am : Nat} {W : List Nat} (hL : LtA h am W) (ha : am ≤ 72) {s : Nat} {c : Cr} (H : StA h s c) (ok : okCr c) (hd : s + 11 ≤ 34 ∨ 36 ≤ s) (i : Nat) (hs : stm W am i) (e : W.getD i 0 = 112) (el : lnO (W.getD i 0) = 6) : Ev mX1_comeOn 5 0 0 [.ref 34, .ref s, .int (nI i)] h (oP s (tPair c (nmV W (i + 1) 2) (nmV W (i + 3) 2)) c h) := by
  have lW := hL.2.2
  obtain ⟨s1, s2, s3⟩ := hs
  have nv0 := nmV_lt (W := W) (i := i + 1) 2 (fun q hq => by rw [Nat.add_assoc]; exact s3 _ (by omega) (by omega))
  have nv1 := nmV_lt (W := W) (i := i + 3) 2 (fun q hq => by rw [Nat.add_assoc]; exact s3 _ (by omega) (by omega))
  refine Ev.of pX1_comeOn (Nat.le_of_ble_eq_true rfl) ?_
  show G mX1_comeOn (rmD 5 0 0) none _ 0 0 0 [(0, .ref 34), (1, .ref s), (2, .int (nI i))] [] h
  refine g_aload_n dX1_comeOn_0 0 rfl ?_
  refine g_getf dX1_comeOn_1 kX1 wfX1_9 (Nat.le_of_ble_eq_true rfl) (hL.1) rfl ?_
  refine g_iload_n dX1_comeOn_4 2 rfl ?_
  refine g_ialN dX1_comeOn_5 (hL.2.1) (by omega) (by omega) ?_
  refine g_top (congrArg nI e) ?_
  refine g_lookup 53 dX1_comeOn_6 (by decide +kernel) (off := 47) (by decide +kernel) (by decide) ?_
  refine g_aload_n dX1_comeOn_53 1 rfl ?_
  refine g_aload_n dX1_comeOn_54 0 rfl ?_
  refine g_iload_n dX1_comeOn_55 2 rfl ?_
  refine g_iconst (v := nI 1) dX1_comeOn_56 (by decide +kernel) ?_
  refine g_iaddN dX1_comeOn_57 ?_
  refine g_iconst (v := nI 2) dX1_comeOn_58 (by decide +kernel) ?_
  refine g_callVp dX1_comeOn_59 (ev_number hL ha (i + 1) 2 (by omega) (by omega) (fun q hq => by rw [Nat.add_assoc]; exact s3 _ (by omega) (by omega))) oX1_number wiX1_number weX1_number wmX1_33 kX1 (hL.1) rfl ⟨(Nat.le_of_ble_eq_true rfl), (Nat.le_of_ble_eq_true rfl)⟩ ⟨Nat.zero_le _, Nat.zero_le _⟩ (Nat.le_of_ble_eq_true rfl) rfl ?_
  refine g_aload_n dX1_comeOn_62 0 rfl ?_
  refine g_iload_n dX1_comeOn_63 2 rfl ?_
  refine g_iconst (v := nI 3) dX1_comeOn_64 (by decide +kernel) ?_
  refine g_iaddN dX1_comeOn_65 ?_
  refine g_iconst (v := nI 2) dX1_comeOn_66 (by decide +kernel) ?_
  refine g_callVp dX1_comeOn_67 (ev_number hL ha (i + 3) 2 (by omega) (by omega) (fun q hq => by rw [Nat.add_assoc]; exact s3 _ (by omega) (by omega))) oX1_number wiX1_number weX1_number wmX1_33 kX1 (hL.1) rfl ⟨(Nat.le_of_ble_eq_true rfl), (Nat.le_of_ble_eq_true rfl)⟩ ⟨Nat.zero_le _, Nat.zero_le _⟩ (Nat.le_of_ble_eq_true rfl) rfl ?_
  refine g_callSq (st1 := [.int (nI (bI ((tPair c (nmV W (i + 1) 2) (nmV W (i + 3) 2)).isSome)))]) dX1_comeOn_70 (ev_laddPair H ok (nmV W (i + 1) 2) (nmV W (i + 3) 2) (by omega) (by omega)) oX1_addPair wsX1_addPair wmX1_39 rfl ⟨(Nat.le_of_ble_eq_true rfl), (Nat.le_of_ble_eq_true rfl)⟩ ⟨Nat.zero_le _, Nat.zero_le _⟩ (Nat.le_of_ble_eq_true rfl) rfl rfl (fun h1 q1 => ?_)
  exact g_zret dX1_comeOn_73 rfl (narB _) ⟨Nat.zero_le _, Nat.zero_le _⟩ (⟨rfl, q1⟩)

set_option maxRecDepth 100000 in
set_option maxHeartbeats 4000000 in
theorem ev_come_97 {h : List aC} {am : Nat} {W : List Nat} (hL : LtA h am W) (ha : am ≤ 72) {s : Nat} {c : Cr} (H : StA h s c) (ok : okCr c) (hd : s + 11 ≤ 34 ∨ 36 ≤ s) (i : Nat) (hs : stm W am i) (e : W.getD i 0 = 97) (el : lnO (W.getD i 0) = 5) : Ev mX1_comeOn 5 0 0 [.ref 34, .ref s, .int (nI i)] h (oP s (tAdder c (nmV W (i + 1) 1) (nmV W (i + 2) 2)) c h) := by
  have lW := hL.2.2
  obtain ⟨s1, s2, s3⟩ := hs
  have nv0 := nmV_lt (W := W) (i := i + 1) 1 (fun q hq => by rw [Nat.add_assoc]; exact s3 _ (by omega) (by omega))
  have nv1 := nmV_lt (W := W) (i := i + 2) 2 (fun q hq => by rw [Nat.add_assoc]; exact s3 _ (by omega) (by omega))
  refine Ev.of pX1_comeOn (Nat.le_of_ble_eq_true rfl) ?_
  show G mX1_comeOn (rmD 5 0 0) none _ 0 0 0 [(0, .ref 34), (1, .ref s), (2, .int (nI i))] [] h
  refine g_aload_n dX1_comeOn_0 0 rfl ?_
  refine g_getf dX1_comeOn_1 kX1 wfX1_9 (Nat.le_of_ble_eq_true rfl) (hL.1) rfl ?_
  refine g_iload_n dX1_comeOn_4 2 rfl ?_
  refine g_ialN dX1_comeOn_5 (hL.2.1) (by omega) (by omega) ?_
  refine g_top (congrArg nI e) ?_
  refine g_lookup 74 dX1_comeOn_6 (by decide +kernel) (off := 68) (by decide +kernel) (by decide) ?_
  refine g_aload_n dX1_comeOn_74 1 rfl ?_
  refine g_aload_n dX1_comeOn_75 0 rfl ?_
  refine g_iload_n dX1_comeOn_76 2 rfl ?_
  refine g_iconst (v := nI 1) dX1_comeOn_77 (by decide +kernel) ?_
  refine g_iaddN dX1_comeOn_78 ?_
  refine g_iconst (v := nI 1) dX1_comeOn_79 (by decide +kernel) ?_
  refine g_callVp dX1_comeOn_80 (ev_number hL ha (i + 1) 1 (by omega) (by omega) (fun q hq => by rw [Nat.add_assoc]; exact s3 _ (by omega) (by omega))) oX1_number wiX1_number weX1_number wmX1_33 kX1 (hL.1) rfl ⟨(Nat.le_of_ble_eq_true rfl), (Nat.le_of_ble_eq_true rfl)⟩ ⟨Nat.zero_le _, Nat.zero_le _⟩ (Nat.le_of_ble_eq_true rfl) rfl ?_
  refine g_aload_n dX1_comeOn_83 0 rfl ?_
  refine g_iload_n dX1_comeOn_84 2 rfl ?_
  refine g_iconst (v := nI 2) dX1_comeOn_85 (by decide +kernel) ?_
  refine g_iaddN dX1_comeOn_86 ?_
  refine g_iconst (v := nI 2) dX1_comeOn_87 (by decide +kernel) ?_
  refine g_callVp dX1_comeOn_88 (ev_number hL ha (i + 2) 2 (by omega) (by omega) (fun q hq => by rw [Nat.add_assoc]; exact s3 _ (by omega) (by omega))) oX1_number wiX1_number weX1_number wmX1_33 kX1 (hL.1) rfl ⟨(Nat.le_of_ble_eq_true rfl), (Nat.le_of_ble_eq_true rfl)⟩ ⟨Nat.zero_le _, Nat.zero_le _⟩ (Nat.le_of_ble_eq_true rfl) rfl ?_
  refine g_callSq (st1 := [.int (nI (bI ((tAdder c (nmV W (i + 1) 1) (nmV W (i + 2) 2)).isSome)))]) dX1_comeOn_91 (ev_lsetAdder H ok (nmV W (i + 1) 1) (nmV W (i + 2) 2) (by omega) (by omega)) oX1_setAdder wsX1_setAdder wmX1_43 rfl ⟨(Nat.le_of_ble_eq_true rfl), (Nat.le_of_ble_eq_true rfl)⟩ ⟨Nat.zero_le _, Nat.zero_le _⟩ (Nat.le_of_ble_eq_true rfl) rfl rfl (fun h1 q1 => ?_)
  exact g_zret dX1_comeOn_94 rfl (narB _) ⟨Nat.zero_le _, Nat.zero_le _⟩ (⟨rfl, q1⟩)

set_option maxRecDepth 100000 in
set_option maxHeartbeats 4000000 in
theorem ev_come_116 {h : List aC} {am : Nat} {W : List Nat} (hL : LtA h am W) (ha : am ≤ 72) {s : Nat} {c : Cr} (H : StA h s c) (ok : okCr c) (hd : s + 11 ≤ 34 ∨ 36 ≤ s) (i : Nat) (hs : stm W am i) (e : W.getD i 0 = 116) (el : lnO (W.getD i 0) = 5) : Ev mX1_comeOn 5 0 0 [.ref 34, .ref s, .int (nI i)] h (oP s (tTurn c (nmV W (i + 1) 1) (nmV W (i + 2) 2)) c h) := by
  have lW := hL.2.2
  obtain ⟨s1, s2, s3⟩ := hs
  have nv0 := nmV_lt (W := W) (i := i + 1) 1 (fun q hq => by rw [Nat.add_assoc]; exact s3 _ (by omega) (by omega))
  have nv1 := nmV_lt (W := W) (i := i + 2) 2 (fun q hq => by rw [Nat.add_assoc]; exact s3 _ (by omega) (by omega))
  refine Ev.of pX1_comeOn (Nat.le_of_ble_eq_true rfl) ?_
  show G mX1_comeOn (rmD 5 0 0) none _ 0 0 0 [(0, .ref 34), (1, .ref s), (2, .int (nI i))] [] h
  refine g_aload_n dX1_comeOn_0 0 rfl ?_
  refine g_getf dX1_comeOn_1 kX1 wfX1_9 (Nat.le_of_ble_eq_true rfl) (hL.1) rfl ?_
  refine g_iload_n dX1_comeOn_4 2 rfl ?_
  refine g_ialN dX1_comeOn_5 (hL.2.1) (by omega) (by omega) ?_
  refine g_top (congrArg nI e) ?_
  refine g_lookup 95 dX1_comeOn_6 (by decide +kernel) (off := 89) (by decide +kernel) (by decide) ?_
  refine g_aload_n dX1_comeOn_95 1 rfl ?_
  refine g_aload_n dX1_comeOn_96 0 rfl ?_
  refine g_iload_n dX1_comeOn_97 2 rfl ?_
  refine g_iconst (v := nI 1) dX1_comeOn_98 (by decide +kernel) ?_
  refine g_iaddN dX1_comeOn_99 ?_
  refine g_iconst (v := nI 1) dX1_comeOn_100 (by decide +kernel) ?_
  refine g_callVp dX1_comeOn_101 (ev_number hL ha (i + 1) 1 (by omega) (by omega) (fun q hq => by rw [Nat.add_assoc]; exact s3 _ (by omega) (by omega))) oX1_number wiX1_number weX1_number wmX1_33 kX1 (hL.1) rfl ⟨(Nat.le_of_ble_eq_true rfl), (Nat.le_of_ble_eq_true rfl)⟩ ⟨Nat.zero_le _, Nat.zero_le _⟩ (Nat.le_of_ble_eq_true rfl) rfl ?_
  refine g_aload_n dX1_comeOn_104 0 rfl ?_
  refine g_iload_n dX1_comeOn_105 2 rfl ?_
  refine g_iconst (v := nI 2) dX1_comeOn_106 (by decide +kernel) ?_
  refine g_iaddN dX1_comeOn_107 ?_
  refine g_iconst (v := nI 2) dX1_comeOn_108 (by decide +kernel) ?_
  refine g_callVp dX1_comeOn_109 (ev_number hL ha (i + 2) 2 (by omega) (by omega) (fun q hq => by rw [Nat.add_assoc]; exact s3 _ (by omega) (by omega))) oX1_number wiX1_number weX1_number wmX1_33 kX1 (hL.1) rfl ⟨(Nat.le_of_ble_eq_true rfl), (Nat.le_of_ble_eq_true rfl)⟩ ⟨Nat.zero_le _, Nat.zero_le _⟩ (Nat.le_of_ble_eq_true rfl) rfl ?_
  refine g_callSq (st1 := [.int (nI (bI ((tTurn c (nmV W (i + 1) 1) (nmV W (i + 2) 2)).isSome)))]) dX1_comeOn_112 (ev_laddTurn H ok (nmV W (i + 1) 1) (nmV W (i + 2) 2) (by omega) (by omega)) oX1_addTurn wsX1_addTurn wmX1_46 rfl ⟨(Nat.le_of_ble_eq_true rfl), (Nat.le_of_ble_eq_true rfl)⟩ ⟨Nat.zero_le _, Nat.zero_le _⟩ (Nat.le_of_ble_eq_true rfl) rfl rfl (fun h1 q1 => ?_)
  exact g_zret dX1_comeOn_115 rfl (narB _) ⟨Nat.zero_le _, Nat.zero_le _⟩ (⟨rfl, q1⟩)

theorem ev_comeOn {h : List aC} {am : Nat} {W : List Nat} (hL : LtA h am W) (ha : am ≤ 72) {s : Nat} {c : Cr} (H : StA h s c) (ok : okCr c) (hd : s + 11 ≤ 34 ∨ 36 ≤ s) (i : Nat) (hs : stm W am i) : Ev mX1_comeOn 5 0 0 [.ref 34, .ref s, .int (nI i)] h (oP s (tStep W i c) c h) := by
  unfold tStep
  rcases lnO_in hs.1 with ⟨e, el⟩ | ⟨e, el⟩ | ⟨e, el⟩ | ⟨e, el⟩
  · rw [if_pos e]; exact ev_come_110 hL ha H ok hd i hs e el
  · rw [if_neg (by omega), if_pos e]; exact ev_come_112 hL ha H ok hd i hs e el
  · rw [if_neg (by omega), if_neg (by omega), if_pos e]; exact ev_come_97 hL ha H ok hd i hs e el
  · rw [if_neg (by omega), if_neg (by omega), if_neg (by omega)]; exact ev_come_116 hL ha H ok hd i hs e el
/-- statements from letter i on: where one can't be, how many came, what they made -/
def tRun (W : List Nat) (am : Nat) : Nat → Nat → Nat → Cr → Option Nat × Nat × Cr
  | 0, _, q, c => (none, q, c)
  | j + 1, i, q, c => if am ≤ i then (none, q, c) else match tStep W i c with
    | none => (some i, q, c)
    | some c2 => tRun W am j (i + lnO (W.getD i 0)) (q + 1) c2
theorem tRun_e {W : List Nat} {am j i q : Nat} {c : Cr} (h : am ≤ i) : tRun W am j i q c = (none, q, c) := by
  cases j with
  | zero => rfl
  | succ j => exact if_pos h
theorem tRun_n {W : List Nat} {am j i q : Nat} {c : Cr} (h : i < am) (e : tStep W i c = none) : tRun W am (j + 1) i q c = (some i, q, c) := by
  show (if am ≤ i then _ else match tStep W i c with | none => (some i, q, c) | some c2 => tRun W am j (i + lnO (W.getD i 0)) (q + 1) c2) = _
  rw [if_neg (by omega), e]
theorem tRun_s {W : List Nat} {am j i q : Nat} {c c2 : Cr} (h : i < am) (e : tStep W i c = some c2) : tRun W am (j + 1) i q c = tRun W am j (i + lnO (W.getD i 0)) (q + 1) c2 := by
  show (if am ≤ i then _ else match tStep W i c with | none => (some i, q, c) | some c2 => tRun W am j (i + lnO (W.getD i 0)) (q + 1) c2) = _
  rw [if_neg (by omega), e]
def tAns (r : Option Nat × Nat × Cr) : Int32 := match r.1 with
  | some i => -2000 - nI i
  | none => nI r.2.1
/-- from a start of a statement on the grammar holds -/
def wfT (W : List Nat) (am i : Nat) : Prop := i ≤ am ∧ wp W (am - i) i 0 = none
theorem wp_mid {W : List Nat} : ∀ (l j i : Nat), wp W j i l = none → l ≤ j ∧ (∀ q, q + 1 < l → 48 ≤ W.getD (i + q) 0 ∧ W.getD (i + q) 0 ≤ 57) ∧ wp W (j - l) (i + l) 0 = none
  | 0, j, i, h => ⟨Nat.zero_le _, fun q hq => absurd hq (by omega), h⟩
  | l + 1, 0, i, h => by
    have h' : (if l + 1 ≠ 0 ∨ i = 0 then some i else none) = none := h
    rw [if_pos (Or.inl (by omega))] at h'
    cases h'
  | l + 1, j + 1, i, h => by
    by_cases z : (l + 1 = 1 ∧ W.getD i 0 ≠ 59) ∨ (l + 1 ≠ 1 ∧ (W.getD i 0 < 48 ∨ 57 < W.getD i 0))
    · rw [wp_c (by omega) z] at h; cases h
    · rw [wp_d (by omega) z] at h
      obtain ⟨a, b, c⟩ := wp_mid l j (i + 1) h
      refine ⟨by omega, fun q hq => ?_, by rw [show j + 1 - (l + 1) = j - l by omega, show i + (l + 1) = i + 1 + l by omega]; exact c⟩
      by_cases q0 : q = 0
      · subst q0
        rw [Nat.add_zero]
        omega
      · have y := b (q - 1) (by omega)
        rw [show i + 1 + (q - 1) = i + q by omega] at y
        exact y
theorem wfT_stm {W : List Nat} {am i : Nat} (h : wfT W am i) (hi : i < am) : stm W am i ∧ wfT W am (i + lnO (W.getD i 0)) := by
  obtain ⟨h1, h2⟩ := h
  obtain ⟨j, ej⟩ : ∃ j, am - i = j + 1 := ⟨am - i - 1, by omega⟩
  rw [ej] at h2
  by_cases z : lnO (W.getD i 0) = 0
  · rw [wp_a rfl z] at h2; cases h2
  · rw [wp_b rfl (by omega)] at h2
    obtain ⟨a, b, c⟩ := wp_mid _ j (i + 1) h2
    refine ⟨⟨z, by omega, fun q h1 h2 => ?_⟩, by omega, ?_⟩
    · have y := b (q - 1) (by omega)
      rw [show i + 1 + (q - 1) = i + q by omega] at y
      exact y
    · rw [show am - (i + lnO (W.getD i 0)) = j - (lnO (W.getD i 0) - 1) by omega, show i + lnO (W.getD i 0) = i + 1 + (lnO (W.getD i 0) - 1) by omega]
      exact c

set_option maxRecDepth 100000 in
set_option maxHeartbeats 4000000 in
theorem lp_layOn {h0 : List aC} {am : Nat} {W : List Nat} (ha : am ≤ 72) (hW : ∀ i, i < am → W.getD i 0 < 256) {s : Nat} (hd : s + 11 ≤ 34 ∨ 36 ≤ s) : ∀ j i (h : List aC) (q : Nat) (c : Cr), am ≤ i + j → LtA h am W → StA h s c → okCr c → wfT W am i → Smo (s + 1) (s + 10) h0 h → G mX1_layOn (rmD 6 0 0) none (pq (some (.int (tAns (tRun W am j i q c)))) (fun h2 => StA h2 s (tRun W am j i q c).2.2 ∧ Smo (s + 1) (s + 10) h0 h2)) 0 0 4 [(3, .int (nI i)), (2, .int (nI q)), (0, .ref 34), (1, .ref s)] [] h := by
  intro j
  induction j with
  | zero =>
    intro i h q c hk hL H ok hw hS
    have z0 := hw.1
    refine g_iload_n dX1_layOn_4 0 rfl ?_
    refine g_aload_n dX1_layOn_5 2 rfl ?_
    refine g_getf dX1_layOn_6 kX1 wfX1_15 (Nat.le_of_ble_eq_true rfl) (hL.1) rfl ?_
    refine g_icmp_geN 49 dX1_layOn_9 (by decide) (by omega) (by omega) (fun c9 => ?_) (fun z => absurd z (by omega))
    refine g_iload_n dX1_layOn_49 1 rfl ?_
    exact g_iret dX1_layOn_50 rfl ⟨Nat.zero_le _, Nat.zero_le _⟩ (⟨by rw [tRun_e (by omega)]; rfl, by rw [tRun_e (by omega)]; exact ⟨H, hS⟩⟩)
  | succ j ih =>
    intro i h q c hk hL H ok hw hS
    have z0 := hw.1
    have lW := hL.2.2
    refine g_iload_n dX1_layOn_4 0 rfl ?_
    refine g_aload_n dX1_layOn_5 2 rfl ?_
    refine g_getf dX1_layOn_6 kX1 wfX1_15 (Nat.le_of_ble_eq_true rfl) (hL.1) rfl ?_
    refine g_icmp_geN 49 dX1_layOn_9 (by decide) (by omega) (by omega) (fun c9 => ?_) (fun c9 => ?_)
    · refine g_iload_n dX1_layOn_49 1 rfl ?_
      exact g_iret dX1_layOn_50 rfl ⟨Nat.zero_le _, Nat.zero_le _⟩ (⟨by rw [tRun_e (by omega)]; rfl, by rw [tRun_e (by omega)]; exact ⟨H, hS⟩⟩)
    · refine g_aload_n dX1_layOn_12 2 rfl ?_
      refine g_aload_n dX1_layOn_13 3 rfl ?_
      refine g_iload_n dX1_layOn_14 0 rfl ?_
      have hst := wfT_stm hw c9
      have hln := lnO_in hst.1.1
      have hwi := hW i c9
      refine g_callVq (st1 := [.int (nI (bI ((tStep W i c).isSome)))]) dX1_layOn_15 (ev_comeOn hL ha H ok hd i hst.1) oX1_comeOn wiX1_comeOn weX1_comeOn wmX1_23 kX1 (hL.1) rfl ⟨(Nat.le_of_ble_eq_true rfl), (Nat.le_of_ble_eq_true rfl)⟩ ⟨Nat.zero_le _, Nat.zero_le _⟩ (Nat.le_of_ble_eq_true rfl) rfl rfl (fun h1 q1 => ?_)
      obtain ⟨q1a, q1s⟩ := q1
      have b1_34 := hL.mv q1s (by omega)
      refine g_if_neB 27 dX1_layOn_18 (by decide) (fun c18 => ?_) (fun c18 => ?_)
      · refine g_iinc (q := 1) (v := nI (q + 1)) (ls' := [(2, .int (nI (q + 1))), (3, .int (nI i)), (0, .ref 34), (1, .ref s)]) dX1_layOn_27 rfl (inc1 _) (Nat.le_of_ble_eq_true rfl) rfl ?_
        refine g_iload_n dX1_layOn_30 1 rfl ?_
        refine g_iconst (v := nI 1) dX1_layOn_31 (by decide +kernel) ?_
        refine g_aload_n dX1_layOn_32 2 rfl ?_
        refine g_getf dX1_layOn_33 kX1 wfX1_9 (Nat.le_of_ble_eq_true rfl) (b1_34.1) rfl ?_
        refine g_iload_n dX1_layOn_36 1 rfl ?_
        refine g_ialN dX1_layOn_37 (b1_34.2.1) (by omega) (by omega) ?_
        refine g_callSp dX1_layOn_38 (ev_lenOf (W.getD i 0) (by omega) _) oX1_lengthOf wsX1_lengthOf wmX1_19 rfl ⟨(Nat.le_of_ble_eq_true rfl), (Nat.le_of_ble_eq_true rfl)⟩ ⟨Nat.zero_le _, Nat.zero_le _⟩ (Nat.le_of_ble_eq_true rfl) rfl ?_
        refine g_callSp dX1_layOn_41 (ev_max (1) (lnO (W.getD i 0)) (by omega) (by omega) _) oJ9_max_7cf53 wsJ9_max_7cf53 wmX1_27 rfl ⟨(Nat.le_of_ble_eq_true rfl), (Nat.le_of_ble_eq_true rfl)⟩ ⟨Nat.zero_le _, Nat.zero_le _⟩ (Nat.le_of_ble_eq_true rfl) rfl ?_
        refine g_iaddN dX1_layOn_44 ?_
        refine g_top (by rw [Nat.max_eq_right (by omega)]) ?_
        refine g_istore_n (ls' := [(3, .int (nI (i + lnO (W.getD i 0)))), (2, .int (nI (q + 1))), (0, .ref 34), (1, .ref s)]) dX1_layOn_45 (Nat.le_of_ble_eq_true rfl) rfl ?_
        refine g_goto 4 dX1_layOn_46 (by decide) ?_
        obtain ⟨c2, ec⟩ := Option.isSome_iff_exists.mp c18
        rw [ec] at q1a
        rw [tRun_s c9 ec]
        exact ih (i + lnO (W.getD i 0)) _ (q + 1) c2 (by omega) b1_34 q1a (tStep_ok hst.1 ok ec) hst.2 (hS.tr q1s)
      · refine g_sipush (v := (-2000)) dX1_layOn_21 (by decide +kernel) ?_
        refine g_iload_n dX1_layOn_24 0 rfl ?_
        refine g_isub dX1_layOn_25 ?_
        exact g_iret dX1_layOn_26 rfl ⟨Nat.zero_le _, Nat.zero_le _⟩ (⟨by rw [tRun_n c9 (Option.not_isSome_iff_eq_none.mp (by rw [c18]; decide))]; rfl, by rw [tRun_n c9 (Option.not_isSome_iff_eq_none.mp (by rw [c18]; decide))]; rw [Option.not_isSome_iff_eq_none.mp (show ¬ (tStep W i c).isSome = true by rw [c18]; decide)] at q1a; exact ⟨q1a, hS.tr q1s⟩⟩)

set_option maxRecDepth 100000 in
set_option maxHeartbeats 4000000 in
theorem ev_layOn {h : List aC} {am : Nat} {W : List Nat} (hL : LtA h am W) (ha : am ≤ 72) (hW : ∀ i, i < am → W.getD i 0 < 256) {s : Nat} {c : Cr} (H : StA h s c) (ok : okCr c) (hd : s + 11 ≤ 34 ∨ 36 ≤ s) (hw : wfT W am 0) : Ev mX1_layOn 6 0 0 [.ref 34, .ref s] h (pq (some (.int (tAns (tRun W am am 0 0 c)))) (fun h2 => StA h2 s (tRun W am am 0 0 c).2.2 ∧ Smo (s + 1) (s + 10) h h2)) := by
  refine Ev.of pX1_layOn (Nat.le_of_ble_eq_true rfl) ?_
  show G mX1_layOn (rmD 6 0 0) none _ 0 0 0 [(0, .ref 34), (1, .ref s)] [] h
  refine g_iconst (v := nI 0) dX1_layOn_0 (by decide +kernel) ?_
  refine g_istore_n (ls' := [(2, .int (nI 0)), (0, .ref 34), (1, .ref s)]) dX1_layOn_1 (Nat.le_of_ble_eq_true rfl) rfl ?_
  refine g_iconst (v := nI 0) dX1_layOn_2 (by decide +kernel) ?_
  refine g_istore_n (ls' := [(3, .int (nI 0)), (2, .int (nI 0)), (0, .ref 34), (1, .ref s)]) dX1_layOn_3 (Nat.le_of_ble_eq_true rfl) rfl ?_
  exact lp_layOn ha hW hd am 0 h 0 c (by omega) hL H ok hw Smo.rf
