/-- size, pairs, turns, room: what an image keeps -/
abbrev Cr : Type := Nat × Nat × (Nat → Pr) × Nat × (Nat → Nat × Nat) × (Nat → Nat → Nat)
/-- the cells of a State at s hold it -/
def StA (h : List aC) (s : Nat) (c : Cr) : Prop := rd h s = some (.inr (6, [.ref (s + 1), .ref (s + 5), .ref (s + 8)])) ∧ ∃ (F S A K U C : List Nat) (T : List Int32), PA h (s + 1) c.1 c.2.1 F S A ∧ (∀ i, i < c.2.1 → fOf F S A i = c.2.2.1 i) ∧ TA h (s + 5) c.2.2.2.1 K U ∧ (∀ i, i < c.2.2.2.1 → (K.getD i 0, U.getD i 0) = c.2.2.2.2.1 i) ∧ RA h (s + 8) c.1 C T ∧ cR c.1 C c.2.2.2.2.2 ∧ (∀ i, i < 169 → C.getD i 0 < 196)
theorem StA.mv {h h' : List aC} {s lo hi : Nat} {c : Cr} (H : StA h s c) (e : Smo lo hi h h') (hq : s + 11 ≤ lo ∨ hi ≤ s) : StA h' s c := by
  obtain ⟨hO, F, S, A, K, U, C, T, hP, hf, hT, ht, hR, hC, hl⟩ := H
  exact ⟨by rw [e s (by omega)]; exact hO, F, S, A, K, U, C, T, hP.mv e (by omega), hf, hT.mv e (by omega), ht, hR.mv e (by omega), hC, hl⟩
def okPr (n : Nat) (p : Pr) : Prop := 1 ≤ p.1 ∧ p.1 < n ∧ 1 ≤ p.2.1 ∧ p.2.1 < n ∧ p.1 ≠ p.2.1 ∧ p.2.2 < n
/-- a size, pairs, turns and a room such as they can be -/
def okCr (c : Cr) : Prop := 3 ≤ c.1 ∧ c.1 ≤ 13 ∧ c.1 % 2 = 1 ∧ c.2.1 ≤ (c.1 - 1) / 2 ∧ (∀ k, k < c.2.1 → okPr c.1 (c.2.2.1 k)) ∧ c.2.2.2.1 ≤ 6 ∧ (∀ i, i < c.2.2.2.1 → (c.2.2.2.2.1 i).1 ≤ 5 ∧ (c.2.2.2.2.1 i).2 ≤ 12) ∧ (∀ a b, a < c.1 → b < c.1 → okC c.1 (c.2.2.2.2.2 a b)) ∧ (∀ a b, c.1 ≤ a ∨ c.1 ≤ b → c.2.2.2.2.2 a b = 0)
theorem okCr.bnd {c : Cr} (h : okCr c) {F S A : List Nat} (hf : ∀ i, i < c.2.1 → fOf F S A i = c.2.2.1 i) : bnd c.1 c.2.1 F S A := fun k hk => by
  obtain ⟨-, h1, -, h2, -, h3⟩ := h.2.2.2.2.1 k hk
  rw [← hf k hk] at h1 h2 h3
  exact ⟨h1, h2, h3⟩
theorem st_copy {h : List aC} {s s2 : Nat} {c c2 : Cr} (H : StA h s c) (H2 : StA h s2 c2) (hd : s + 11 ≤ s2 ∨ s2 + 11 ≤ s) : Ev mX6_copyFrom 2 0 0 [.ref s, .ref s2] h (pq none (fun h2 => StA h2 s c2 ∧ Smo (s + 1) (s + 10) h h2)) := by
  obtain ⟨hO, F, S, A, K, U, C, T, hP, hf, hT, ht, hR, hC, hl⟩ := H
  obtain ⟨kO, F2, S2, A2, K2, U2, C2, T2, kP, kf, kT, kt, kR, kC, kl⟩ := H2
  refine (ev_scopy hO hP hT hR kO kP kT kR hd).mono ?_
  rintro w h2 ⟨rfl, q1, q2, q3, q4⟩
  exact ⟨rfl, ⟨by rw [q4 s (by omega)]; exact hO, F2, S2, A2, K2, U2, C2, T, q1, kf, q2, kt, q3, kC, kl⟩, q4⟩
theorem st_resize {h : List aC} {s : Nat} {c : Cr} (H : StA h s c) (x : Nat) (hx : x ≤ 13) (f : Nat → Pr) (tu : Nat → Nat × Nat) : Ev mX6_resize 2 0 0 [.ref s, .int (nI x)] h (pq none (fun h2 => StA h2 s (x, 0, f, 0, tu, fun _ _ => 0) ∧ Smo (s + 1) (s + 10) h h2)) := by
  obtain ⟨hO, F, S, A, K, U, C, T, hP, hf, hT, ht, hR, hC, hl⟩ := H
  refine (ev_resize hO hP hT hR x).mono ?_
  rintro w h2 ⟨rfl, C2, q1, q2, q3, q4, q5⟩
  exact ⟨rfl, ⟨by rw [q5 s (by omega)]; exact hO, F, S, A, K, U, C2, T, q1, fun i hi => absurd hi (Nat.not_lt_zero i), q2, fun i hi => absurd hi (Nat.not_lt_zero i), q3, fun a b ha hb => q4 _ (pl_lt hx ha hb), fun i hi => by rw [q4 i hi]; omega⟩, q5⟩
def upF (f : Nat → Pr) (k : Nat) (v : Pr) : Nat → Pr := fun j => if j = k then v else f j
def upT (f : Nat → Nat × Nat) (k : Nat) (v : Nat × Nat) : Nat → Nat × Nat := fun j => if j = k then v else f j
theorem upF_eq {f : Nat → Pr} {k : Nat} {v : Pr} : upF f k v k = v := if_pos rfl
theorem upF_ne {f : Nat → Pr} {k j : Nat} {v : Pr} (h : j ≠ k) : upF f k v j = f j := if_neg h
theorem upT_eq {f : Nat → Nat × Nat} {k : Nat} {v : Nat × Nat} : upT f k v k = v := if_pos rfl
theorem upT_ne {f : Nat → Nat × Nat} {k j : Nat} {v : Nat × Nat} (h : j ≠ k) : upT f k v j = f j := if_neg h
theorem fOf_app {F S A : List Nat} {m : Nat} {f : Nat → Pr} (h : ∀ i, i < m → fOf F S A i = f i) (h1 : m < F.length) (h2 : m < S.length) (h3 : m < A.length) (x y z : Nat) : ∀ i, i < m + 1 → fOf (F.set m x) (S.set m y) (A.set m z) i = upF f m (x, y, z) i := by
  intro i hi
  by_cases q : i = m
  · subst q; rw [upF_eq, fOf_eq h1 h2 h3]
  · rw [upF_ne q, fOf_ne q]; exact h i (by omega)
/-- the cells of the Letters at 34 -/
def LtA (h : List aC) (am : Nat) (W : List Nat) : Prop := rd h 34 = some (.inr (1, [.ref 35, .int (nI am)])) ∧ rd h 35 = some (.inl (W.map nI)) ∧ W.length = 72
theorem LtA.mv {h h' : List aC} {am lo hi : Nat} {W : List Nat} (H : LtA h am W) (s : Smo lo hi h h') (hq : 36 ≤ lo ∨ hi ≤ 34) : LtA h' am W := ⟨by rw [s _ (by omega)]; exact H.1, by rw [s _ (by omega)]; exact H.2.1, H.2.2⟩
def lnO (c : Nat) : Nat := if c = 110 then 4 else if c = 112 then 6 else if c = 97 ∨ c = 116 then 5 else 0
theorem lnO_le (c : Nat) : lnO c ≤ 6 := by unfold lnO; split; omega; split; omega; split <;> omega

set_option maxRecDepth 100000 in
set_option maxHeartbeats 4000000 in
theorem ev_come {h : List aC} {am : Nat} {W : List Nat} (hL : LtA h am W) (ha : am < 72) (c : Nat) : Ev mX1_come 1 0 0 [.ref 34, .int (nI c)] h (pq (some (.int (nI (am + 1)))) (fun h2 => LtA h2 (am + 1) (W.set am c) ∧ Smo 34 36 h h2)) := by
  have lW := hL.2.2
  refine Ev.of pX1_come (Nat.le_of_ble_eq_true rfl) ?_
  show G mX1_come (rmD 1 0 0) none _ 0 0 0 [(0, .ref 34), (1, .int (nI c))] [] h
  refine g_aload_n dX1_come_0 0 rfl ?_
  refine g_getf dX1_come_1 kX1 wfX1_15 (Nat.le_of_ble_eq_true rfl) (hL.1) rfl ?_
  refine g_bipush (v := nI 72) dX1_come_4 (by decide +kernel) ?_
  refine g_icmp_geN 29 dX1_come_6 (by decide) (by omega) (by omega) (fun z => absurd z (by omega)) (fun c6 => ?_)
  refine g_aload_n dX1_come_9 0 rfl ?_
  refine g_getf dX1_come_10 kX1 wfX1_9 (Nat.le_of_ble_eq_true rfl) (hL.1) rfl ?_
  refine g_aload_n dX1_come_13 0 rfl ?_
  refine g_getf dX1_come_14 kX1 wfX1_15 (Nat.le_of_ble_eq_true rfl) (hL.1) rfl ?_
  refine g_iload_n dX1_come_17 1 rfl ?_
  refine g_iasN dX1_come_18 (hL.2.1) (by omega) (by omega) (fun h1 e1 => ?_)
  have f1_35 : rd h1 35 = some (.inl (((W).set am c).map nI)) := by rw [e1]; exact rd_wr_eq (hL.2.1)
  have s1 : Smo 35 (35 + 1) h h1 := by rw [e1]; exact Smo.wr (by omega) (by omega)
  have f1_34 : rd h1 34 = some (.inr (1, [.ref 35, .int (nI am)])) := by rw [s1 _ (by omega)]; exact hL.1
  refine g_aload_n dX1_come_19 0 rfl ?_
  refine g_dup dX1_come_20 rfl ?_
  refine g_getf dX1_come_21 kX1 wfX1_15 (Nat.le_of_ble_eq_true rfl) (f1_34) rfl ?_
  refine g_iconst (v := nI 1) dX1_come_24 (by decide +kernel) ?_
  refine g_iaddN dX1_come_25 ?_
  refine g_putv dX1_come_26 kX1 wfX1_15 (Nat.le_of_ble_eq_true rfl) rfl (fun _ _ => ⟨rfl, rfl⟩) (f1_34) (Nat.le_of_ble_eq_true rfl) (fs' := [.ref 35, .int (nI (am + 1))]) rfl (fun h2 e2 => ?_)
  have f2_34 : rd h2 34 = some (.inr (1, [.ref 35, .int (nI (am + 1))])) := by rw [e2]; exact rd_wr_eq (f1_34)
  have s2 : Smo 34 (34 + 1) h1 h2 := by rw [e2]; exact Smo.wr (by omega) (by omega)
  have f2_35 : rd h2 35 = some (.inl (((W).set am c).map nI)) := by rw [s2 _ (by omega)]; exact f1_35
  refine g_aload_n dX1_come_29 0 rfl ?_
  refine g_getf dX1_come_30 kX1 wfX1_15 (Nat.le_of_ble_eq_true rfl) (f2_34) rfl ?_
  exact g_iret dX1_come_33 rfl ⟨Nat.zero_le _, Nat.zero_le _⟩ (⟨rfl, ⟨f2_34, f2_35, by simp [lW]⟩, (fun q hq => by rw [s2 q (by omega), s1 q (by omega)])⟩)

set_option maxRecDepth 100000 in
set_option maxHeartbeats 4000000 in
theorem ev_lenOf_110 (h : List aC) : Ev mX1_lengthOf 1 0 0 [.int (nI 110)] h (pv (.int (nI 4)) h) := by
  refine Ev.of pX1_lengthOf (Nat.le_of_ble_eq_true rfl) ?_
  show G mX1_lengthOf (rmD 1 0 0) none _ 0 0 0 [(0, .int (nI 110))] [] h
  refine g_iload_n dX1_lengthOf_0 0 rfl ?_
  refine g_lookup 44 dX1_lengthOf_1 (by decide +kernel) (off := 43) (by decide +kernel) (by decide) ?_
  refine g_iconst (v := nI 4) dX1_lengthOf_44 (by decide +kernel) ?_
  exact g_iret dX1_lengthOf_45 rfl ⟨Nat.zero_le _, Nat.zero_le _⟩ (⟨rfl, rfl⟩)

set_option maxRecDepth 100000 in
set_option maxHeartbeats 4000000 in
theorem ev_lenOf_112 (h : List aC) : Ev mX1_lengthOf 1 0 0 [.int (nI 112)] h (pv (.int (nI 6)) h) := by
  refine Ev.of pX1_lengthOf (Nat.le_of_ble_eq_true rfl) ?_
  show G mX1_lengthOf (rmD 1 0 0) none _ 0 0 0 [(0, .int (nI 112))] [] h
  refine g_iload_n dX1_lengthOf_0 0 rfl ?_
  refine g_lookup 46 dX1_lengthOf_1 (by decide +kernel) (off := 45) (by decide +kernel) (by decide) ?_
  refine g_bipush (v := nI 6) dX1_lengthOf_46 (by decide +kernel) ?_
  exact g_iret dX1_lengthOf_48 rfl ⟨Nat.zero_le _, Nat.zero_le _⟩ (⟨rfl, rfl⟩)

set_option maxRecDepth 100000 in
set_option maxHeartbeats 4000000 in
theorem ev_lenOf_97 (h : List aC) : Ev mX1_lengthOf 1 0 0 [.int (nI 97)] h (pv (.int (nI 5)) h) := by
  refine Ev.of pX1_lengthOf (Nat.le_of_ble_eq_true rfl) ?_
  show G mX1_lengthOf (rmD 1 0 0) none _ 0 0 0 [(0, .int (nI 97))] [] h
  refine g_iload_n dX1_lengthOf_0 0 rfl ?_
  refine g_lookup 49 dX1_lengthOf_1 (by decide +kernel) (off := 48) (by decide +kernel) (by decide) ?_
  refine g_iconst (v := nI 5) dX1_lengthOf_49 (by decide +kernel) ?_
  exact g_iret dX1_lengthOf_50 rfl ⟨Nat.zero_le _, Nat.zero_le _⟩ (⟨rfl, rfl⟩)

set_option maxRecDepth 100000 in
set_option maxHeartbeats 4000000 in
theorem ev_lenOf_116 (h : List aC) : Ev mX1_lengthOf 1 0 0 [.int (nI 116)] h (pv (.int (nI 5)) h) := by
  refine Ev.of pX1_lengthOf (Nat.le_of_ble_eq_true rfl) ?_
  show G mX1_lengthOf (rmD 1 0 0) none _ 0 0 0 [(0, .int (nI 116))] [] h
  refine g_iload_n dX1_lengthOf_0 0 rfl ?_
  refine g_lookup 49 dX1_lengthOf_1 (by decide +kernel) (off := 48) (by decide +kernel) (by decide) ?_
  refine g_iconst (v := nI 5) dX1_lengthOf_49 (by decide +kernel) ?_
  exact g_iret dX1_lengthOf_50 rfl ⟨Nat.zero_le _, Nat.zero_le _⟩ (⟨rfl, rfl⟩)

theorem lo_tab : ∀ c, c < 256 → ¬ c = 110 → ¬ c = 112 → ¬ c = 97 → ¬ c = 116 → Op.lookupswitch.offset (#[(97, 48), (110, 43), (112, 45), (116, 48)] : Array (Int × Int)).toList 50 (nI c).toInt = 50 := by decide +kernel
set_option maxRecDepth 100000 in
set_option maxHeartbeats 4000000 in
theorem ev_lenOf_o (c : Nat) (hc : c < 256) (h1 : ¬ c = 110) (h2 : ¬ c = 112) (h3 : ¬ c = 97) (h4 : ¬ c = 116) (h : List aC) : Ev mX1_lengthOf 1 0 0 [.int (nI c)] h (pv (.int (nI 0)) h) := by
  refine Ev.of pX1_lengthOf (Nat.le_of_ble_eq_true rfl) ?_
  show G mX1_lengthOf (rmD 1 0 0) none _ 0 0 0 [(0, .int (nI c))] [] h
  refine g_iload_n dX1_lengthOf_0 0 rfl ?_
  refine g_lookup 51 dX1_lengthOf_1 (by decide +kernel) (off := 50) (lo_tab c hc h1 h2 h3 h4) (by decide) ?_
  refine g_iconst (v := nI 0) dX1_lengthOf_51 (by decide +kernel) ?_
  exact g_iret dX1_lengthOf_52 rfl ⟨Nat.zero_le _, Nat.zero_le _⟩ (⟨rfl, rfl⟩)

theorem ev_lenOf (c : Nat) (hc : c < 256) (h : List aC) : Ev mX1_lengthOf 1 0 0 [.int (nI c)] h (pv (.int (nI (lnO c))) h) := by
  unfold lnO
  by_cases h1 : c = 110
  · subst h1; exact ev_lenOf_110 h
  · rw [if_neg h1]
    by_cases h2 : c = 112
    · subst h2; exact ev_lenOf_112 h
    · rw [if_neg h2]
      by_cases h3 : c = 97
      · subst h3; exact ev_lenOf_97 h
      · by_cases h4 : c = 116
        · subst h4; exact ev_lenOf_116 h
        · rw [if_neg (fun z => by rcases z with z | z; exact h3 z; exact h4 z)]; exact ev_lenOf_o c hc h1 h2 h3 h4 h
/-- where a text goes on no more, from letter i on, with so many signs of a statement left -/
def wp (W : List Nat) : Nat → Nat → Nat → Option Nat
  | 0, i, l => if l ≠ 0 ∨ i = 0 then some i else none
  | j + 1, i, l => if l = 0 then (if lnO (W.getD i 0) = 0 then some i else wp W j (i + 1) (lnO (W.getD i 0) - 1)) else if (l = 1 ∧ W.getD i 0 ≠ 59) ∨ (l ≠ 1 ∧ (W.getD i 0 < 48 ∨ 57 < W.getD i 0)) then some i else wp W j (i + 1) (l - 1)
def wI : Option Nat → Int32
  | some v => nI v
  | none => -1
theorem wp_a {W : List Nat} {j i l : Nat} (h : l = 0) (h2 : lnO (W.getD i 0) = 0) : wp W (j + 1) i l = some i := by show (if _ then (if _ then _ else _) else _) = _; rw [if_pos h, if_pos h2]
theorem wp_b {W : List Nat} {j i l : Nat} (h : l = 0) (h2 : 0 < lnO (W.getD i 0)) : wp W (j + 1) i l = wp W j (i + 1) (lnO (W.getD i 0) - 1) := by show (if _ then (if _ then _ else _) else _) = _; rw [if_pos h, if_neg (Nat.ne_of_gt h2)]
theorem wp_c {W : List Nat} {j i l : Nat} (h : 0 < l) (h2 : (l = 1 ∧ W.getD i 0 ≠ 59) ∨ (l ≠ 1 ∧ (W.getD i 0 < 48 ∨ 57 < W.getD i 0))) : wp W (j + 1) i l = some i := by show (if _ then _ else if _ then _ else _) = _; rw [if_neg (Nat.ne_of_gt h), if_pos h2]
theorem wp_d {W : List Nat} {j i l : Nat} (h : 0 < l) (h2 : ¬ ((l = 1 ∧ W.getD i 0 ≠ 59) ∨ (l ≠ 1 ∧ (W.getD i 0 < 48 ∨ 57 < W.getD i 0)))) : wp W (j + 1) i l = wp W j (i + 1) (l - 1) := by show (if _ then _ else if _ then _ else _) = _; rw [if_neg (Nat.ne_of_gt h), if_neg h2]
theorem decN {l : Nat} (h : 0 < l) : nI l + Int32.ofInt (-1) = nI (l - 1) := by
  obtain ⟨k, rfl⟩ : ∃ k, l = k + 1 := ⟨l - 1, by omega⟩
  exact dec1 k

set_option maxRecDepth 100000 in
set_option maxHeartbeats 4000000 in
theorem lp_wrong {h : List aC} {am : Nat} {W : List Nat} (hL : LtA h am W) (ha : am ≤ 72) (hW : ∀ i, i < am → W.getD i 0 < 256) : ∀ j k (l : Nat), k + j = am → l ≤ 6 → G mX1_wrongPlace (rmD 2 0 0) none (pv (.int (wI (wp W j k l))) h) 0 0 4 [(2, .int (nI k)), (1, .int (nI l)), (0, .ref 34)] [] h := by
  have lW := hL.2.2
  intro j
  induction j with
  | zero =>
    intro k l hk hl
    have ek : k = am := by omega
    refine g_iload_n dX1_wrongPlace_4 0 rfl ?_
    refine g_aload_n dX1_wrongPlace_5 2 rfl ?_
    refine g_getf dX1_wrongPlace_6 kX1 wfX1_15 (Nat.le_of_ble_eq_true rfl) (hL.1) rfl ?_
    refine g_icmp_geN 71 dX1_wrongPlace_9 (by decide) (by omega) (by omega) (fun c9 => ?_) (fun z => absurd z (by omega))
    refine g_iload_n dX1_wrongPlace_71 1 rfl ?_
    refine g_if_neN 82 dX1_wrongPlace_72 (by decide) (by omega) (fun c72 => ?_) (fun c72 => ?_)
    · refine g_aload_n dX1_wrongPlace_82 2 rfl ?_
      refine g_getf dX1_wrongPlace_83 kX1 wfX1_15 (Nat.le_of_ble_eq_true rfl) (hL.1) rfl ?_
      refine g_goto 90 dX1_wrongPlace_86 (by decide) ?_
      exact g_iret dX1_wrongPlace_90 rfl ⟨Nat.zero_le _, Nat.zero_le _⟩ (⟨by show _ = some (Value.int (wI (if _ then _ else _))); first | (rw [if_pos (Or.inl (by omega)), ek]; rfl) | (rw [if_pos (Or.inr (by omega)), ek]; rfl), rfl⟩)
    · refine g_aload_n dX1_wrongPlace_75 2 rfl ?_
      refine g_getf dX1_wrongPlace_76 kX1 wfX1_15 (Nat.le_of_ble_eq_true rfl) (hL.1) rfl ?_
      refine g_if_neN 89 dX1_wrongPlace_79 (by decide) (by omega) (fun c79 => ?_) (fun c79 => ?_)
      · refine g_iconst (v := (-1)) dX1_wrongPlace_89 (by decide +kernel) ?_
        exact g_iret dX1_wrongPlace_90 rfl ⟨Nat.zero_le _, Nat.zero_le _⟩ (⟨by show _ = some (Value.int (wI (if _ then _ else _))); rw [if_neg (by omega)]; rfl, rfl⟩)
      · refine g_aload_n dX1_wrongPlace_82 2 rfl ?_
        refine g_getf dX1_wrongPlace_83 kX1 wfX1_15 (Nat.le_of_ble_eq_true rfl) (hL.1) rfl ?_
        refine g_goto 90 dX1_wrongPlace_86 (by decide) ?_
        exact g_iret dX1_wrongPlace_90 rfl ⟨Nat.zero_le _, Nat.zero_le _⟩ (⟨by show _ = some (Value.int (wI (if _ then _ else _))); first | (rw [if_pos (Or.inl (by omega)), ek]; rfl) | (rw [if_pos (Or.inr (by omega)), ek]; rfl), rfl⟩)
  | succ j ih =>
    intro k l hk hl
    have z1 := hW k (by omega)
    have z2 := lnO_le (W.getD k 0)
    refine g_iload_n dX1_wrongPlace_4 0 rfl ?_
    refine g_aload_n dX1_wrongPlace_5 2 rfl ?_
    refine g_getf dX1_wrongPlace_6 kX1 wfX1_15 (Nat.le_of_ble_eq_true rfl) (hL.1) rfl ?_
    refine g_icmp_geN 71 dX1_wrongPlace_9 (by decide) (by omega) (by omega) (fun z => absurd z (by omega)) (fun c9 => ?_)
    refine g_aload_n dX1_wrongPlace_12 2 rfl ?_
    refine g_getf dX1_wrongPlace_13 kX1 wfX1_9 (Nat.le_of_ble_eq_true rfl) (hL.1) rfl ?_
    refine g_iload_n dX1_wrongPlace_16 0 rfl ?_
    refine g_ialN dX1_wrongPlace_17 (hL.2.1) (by omega) (by omega) ?_
    refine g_istore_n (ls' := [(3, .int (nI ((W).getD k 0))), (2, .int (nI k)), (1, .int (nI l)), (0, .ref 34)]) dX1_wrongPlace_18 (Nat.le_of_ble_eq_true rfl) rfl ?_
    refine g_iload_n dX1_wrongPlace_19 2 rfl ?_
    refine g_if_neN 34 dX1_wrongPlace_20 (by decide) (by omega) (fun c20 => ?_) (fun c20 => ?_)
    · refine g_iload_n dX1_wrongPlace_34 2 rfl ?_
      refine g_iconst (v := nI 1) dX1_wrongPlace_35 (by decide +kernel) ?_
      refine g_icmp_neN 48 dX1_wrongPlace_36 (by decide) (by omega) (by omega) (fun c36 => ?_) (fun c36 => ?_)
      · refine g_iload_n dX1_wrongPlace_48 0 rfl ?_
        refine g_bipush (v := nI 48) dX1_wrongPlace_49 (by decide +kernel) ?_
        refine g_icmp_ltN 60 dX1_wrongPlace_51 (by decide) (by omega) (by omega) (fun c51 => ?_) (fun c51 => ?_)
        · refine g_iload_n dX1_wrongPlace_60 1 rfl ?_
          exact g_iret dX1_wrongPlace_61 rfl ⟨Nat.zero_le _, Nat.zero_le _⟩ (⟨by rw [wp_c c20 (by omega)]; rfl, rfl⟩)
        · refine g_iload_n dX1_wrongPlace_54 0 rfl ?_
          refine g_bipush (v := nI 57) dX1_wrongPlace_55 (by decide +kernel) ?_
          refine g_icmp_leN 62 dX1_wrongPlace_57 (by decide) (by omega) (by omega) (fun c57 => ?_) (fun c57 => ?_)
          · refine g_iinc (q := 2) (v := nI (l - 1)) (ls' := [(1, .int (nI (l - 1))), (3, .int (nI ((W).getD k 0))), (2, .int (nI k)), (0, .ref 34)]) dX1_wrongPlace_62 rfl (decN (by omega)) (Nat.le_of_ble_eq_true rfl) rfl ?_
            refine g_iinc (q := 2) (v := nI (k + 1)) (ls' := [(2, .int (nI (k + 1))), (1, .int (nI (l - 1))), (3, .int (nI ((W).getD k 0))), (0, .ref 34)]) dX1_wrongPlace_65 rfl (inc1 _) (Nat.le_of_ble_eq_true rfl) rfl ?_
            refine g_goto 4 dX1_wrongPlace_68 (by decide) ?_
            refine g_lsub_ (ls2 := [(2, .int (nI (k + 1))), (1, .int (nI (l - 1))), (0, .ref 34)]) [0, 1, 3] rfl ?_
            rw [wp_d c20 (by omega)]
            exact ih (k + 1) _ (by omega) (by omega)
          · refine g_iload_n dX1_wrongPlace_60 1 rfl ?_
            exact g_iret dX1_wrongPlace_61 rfl ⟨Nat.zero_le _, Nat.zero_le _⟩ (⟨by rw [wp_c c20 (by omega)]; rfl, rfl⟩)
      · refine g_iload_n dX1_wrongPlace_39 0 rfl ?_
        refine g_bipush (v := nI 59) dX1_wrongPlace_40 (by decide +kernel) ?_
        refine g_icmp_eqN 62 dX1_wrongPlace_42 (by decide) (by omega) (by omega) (fun c42 => ?_) (fun c42 => ?_)
        · refine g_iinc (q := 2) (v := nI (l - 1)) (ls' := [(1, .int (nI (l - 1))), (3, .int (nI ((W).getD k 0))), (2, .int (nI k)), (0, .ref 34)]) dX1_wrongPlace_62 rfl (decN (by omega)) (Nat.le_of_ble_eq_true rfl) rfl ?_
          refine g_iinc (q := 2) (v := nI (k + 1)) (ls' := [(2, .int (nI (k + 1))), (1, .int (nI (l - 1))), (3, .int (nI ((W).getD k 0))), (0, .ref 34)]) dX1_wrongPlace_65 rfl (inc1 _) (Nat.le_of_ble_eq_true rfl) rfl ?_
          refine g_goto 4 dX1_wrongPlace_68 (by decide) ?_
          refine g_lsub_ (ls2 := [(2, .int (nI (k + 1))), (1, .int (nI (l - 1))), (0, .ref 34)]) [0, 1, 3] rfl ?_
          rw [wp_d c20 (by omega)]
          exact ih (k + 1) _ (by omega) (by omega)
        · refine g_goto 60 dX1_wrongPlace_45 (by decide) ?_
          refine g_iload_n dX1_wrongPlace_60 1 rfl ?_
          exact g_iret dX1_wrongPlace_61 rfl ⟨Nat.zero_le _, Nat.zero_le _⟩ (⟨by rw [wp_c c20 (by omega)]; rfl, rfl⟩)
    · refine g_iload_n dX1_wrongPlace_23 0 rfl ?_
      refine g_callSp dX1_wrongPlace_24 (ev_lenOf (W.getD k 0) (by omega) h) oX1_lengthOf wsX1_lengthOf wmX1_19 rfl ⟨(Nat.le_of_ble_eq_true rfl), (Nat.le_of_ble_eq_true rfl)⟩ ⟨Nat.zero_le _, Nat.zero_le _⟩ (Nat.le_of_ble_eq_true rfl) rfl ?_
      refine g_istore_n (ls' := [(1, .int (nI (lnO (W.getD k 0)))), (3, .int (nI ((W).getD k 0))), (2, .int (nI k)), (0, .ref 34)]) dX1_wrongPlace_27 (Nat.le_of_ble_eq_true rfl) rfl ?_
      refine g_iload_n dX1_wrongPlace_28 0 rfl ?_
      refine g_if_neN 62 dX1_wrongPlace_29 (by decide) (by omega) (fun c29 => ?_) (fun c29 => ?_)
      · refine g_iinc (q := 0) (v := nI ((lnO (W.getD k 0)) - 1)) (ls' := [(1, .int (nI ((lnO (W.getD k 0)) - 1))), (3, .int (nI ((W).getD k 0))), (2, .int (nI k)), (0, .ref 34)]) dX1_wrongPlace_62 rfl (decN (by omega)) (Nat.le_of_ble_eq_true rfl) rfl ?_
        refine g_iinc (q := 2) (v := nI (k + 1)) (ls' := [(2, .int (nI (k + 1))), (1, .int (nI ((lnO (W.getD k 0)) - 1))), (3, .int (nI ((W).getD k 0))), (0, .ref 34)]) dX1_wrongPlace_65 rfl (inc1 _) (Nat.le_of_ble_eq_true rfl) rfl ?_
        refine g_goto 4 dX1_wrongPlace_68 (by decide) ?_
        refine g_lsub_ (ls2 := [(2, .int (nI (k + 1))), (1, .int (nI ((lnO (W.getD k 0)) - 1))), (0, .ref 34)]) [0, 1, 3] rfl ?_
        rw [wp_b c20 (by omega)]
        exact ih (k + 1) _ (by omega) (by omega)
      · refine g_iload_n dX1_wrongPlace_32 2 rfl ?_
        exact g_iret dX1_wrongPlace_33 rfl ⟨Nat.zero_le _, Nat.zero_le _⟩ (⟨by rw [wp_a c20 c29]; rfl, rfl⟩)

set_option maxRecDepth 100000 in
set_option maxHeartbeats 4000000 in
theorem ev_wrong {h : List aC} {am : Nat} {W : List Nat} (hL : LtA h am W) (ha : am ≤ 72) (hW : ∀ i, i < am → W.getD i 0 < 256) : Ev mX1_wrongPlace 2 0 0 [.ref 34] h (pv (.int (wI (wp W am 0 0))) h) := by
  refine Ev.of pX1_wrongPlace (Nat.le_of_ble_eq_true rfl) ?_
  show G mX1_wrongPlace (rmD 2 0 0) none _ 0 0 0 [(0, .ref 34)] [] h
  refine g_iconst (v := nI 0) dX1_wrongPlace_0 (by decide +kernel) ?_
  refine g_istore_n (ls' := [(1, .int (nI 0)), (0, .ref 34)]) dX1_wrongPlace_1 (Nat.le_of_ble_eq_true rfl) rfl ?_
  refine g_iconst (v := nI 0) dX1_wrongPlace_2 (by decide +kernel) ?_
  refine g_istore_n (ls' := [(2, .int (nI 0)), (1, .int (nI 0)), (0, .ref 34)]) dX1_wrongPlace_3 (Nat.le_of_ble_eq_true rfl) rfl ?_
  exact lp_wrong hL ha hW am 0 0 (by omega) (by omega)

def nmV (W : List Nat) (i : Nat) : Nat → Nat
  | 0 => 0
  | d + 1 => 10 * nmV W i d + W.getD (i + d) 0 - 48
theorem nmV_lt {W : List Nat} {i : Nat} : ∀ d, (∀ q, q < d → 48 ≤ W.getD (i + q) 0 ∧ W.getD (i + q) 0 ≤ 57) → nmV W i d < 10 ^ d
  | 0, _ => Nat.one_pos
  | d + 1, h => by
    have h1 := nmV_lt d (fun q hq => h q (by omega))
    have h2 := h d (by omega)
    have h3 : 10 ^ (d + 1) = 10 * 10 ^ d := by rw [Nat.pow_succ, Nat.mul_comm]
    show 10 * nmV W i d + W.getD (i + d) 0 - 48 < _
    omega

set_option maxRecDepth 100000 in
set_option maxHeartbeats 4000000 in
theorem lp_number {h : List aC} {am : Nat} {W : List Nat} (hL : LtA h am W) (ha : am ≤ 72) (i d : Nat) (hd : d ≤ 2) (hi : i + d ≤ am) (hD : ∀ q, q < d → 48 ≤ W.getD (i + q) 0 ∧ W.getD (i + q) 0 ≤ 57) : ∀ j k , k + j = d → G mX1_number (rmD 1 0 0) none (pv (.int (nI (nmV W i d))) h) 0 0 5 [(4, .int (nI (i + k))), (3, .int (nI (nmV W i k))), (0, .ref 34), (1, .int (nI i)), (2, .int (nI d))] [] h := by
  have lW := hL.2.2
  intro j
  induction j with
  | zero =>
    intro k  hk 
    refine g_iload dX1_number_5 0 rfl ?_
    refine g_iload_n dX1_number_7 3 rfl ?_
    refine g_iload_n dX1_number_8 4 rfl ?_
    refine g_iaddN dX1_number_9 ?_
    refine g_icmp_geN 44 dX1_number_10 (by decide) (by omega) (by omega) (fun c10 => ?_) (fun z => absurd z (by omega))
    refine g_iload_n dX1_number_44 1 rfl ?_
    exact g_iret dX1_number_45 rfl ⟨Nat.zero_le _, Nat.zero_le _⟩ (⟨by rw [show k = d by omega], rfl⟩)
  | succ j ih =>
    intro k  hk 
    have z1 := hD k (by omega)
    have z2 := nmV_lt (W := W) (i := i) k (fun q hq => hD q (by omega))
    have z3 : 10 ^ k ≤ 10 ^ 2 := Nat.pow_le_pow_right (by decide) (by omega)
    refine g_iload dX1_number_5 0 rfl ?_
    refine g_iload_n dX1_number_7 3 rfl ?_
    refine g_iload_n dX1_number_8 4 rfl ?_
    refine g_iaddN dX1_number_9 ?_
    refine g_icmp_geN 44 dX1_number_10 (by decide) (by omega) (by omega) (fun z => absurd z (by omega)) (fun c10 => ?_)
    refine g_iload dX1_number_13 0 rfl ?_
    refine g_aload_n dX1_number_15 2 rfl ?_
    refine g_getf dX1_number_16 kX1 wfX1_15 (Nat.le_of_ble_eq_true rfl) (hL.1) rfl ?_
    refine g_icmp_geN 44 dX1_number_19 (by decide) (by omega) (by omega) (fun z => absurd z (by omega)) (fun c19 => ?_)
    refine g_bipush (v := nI 10) dX1_number_22 (by decide +kernel) ?_
    refine g_iload_n dX1_number_24 1 rfl ?_
    refine g_imulN dX1_number_25 ?_
    refine g_aload_n dX1_number_26 2 rfl ?_
    refine g_getf dX1_number_27 kX1 wfX1_9 (Nat.le_of_ble_eq_true rfl) (hL.1) rfl ?_
    refine g_iload dX1_number_30 0 rfl ?_
    refine g_ialN dX1_number_32 (hL.2.1) (by omega) (by omega) ?_
    refine g_iaddN dX1_number_33 ?_
    refine g_bipush (v := nI 48) dX1_number_34 (by decide +kernel) ?_
    refine g_isubN dX1_number_36 (by omega) ?_
    refine g_istore_n (ls' := [(3, .int (nI (((10 * (nmV W i k)) + ((W).getD (i + k) 0)) - 48))), (4, .int (nI (i + k))), (0, .ref 34), (1, .int (nI i)), (2, .int (nI d))]) dX1_number_37 (Nat.le_of_ble_eq_true rfl) rfl ?_
    refine g_iinc (q := 1) (v := nI (i + (k + 1))) (ls' := [(4, .int (nI (i + (k + 1)))), (3, .int (nI (((10 * (nmV W i k)) + ((W).getD (i + k) 0)) - 48))), (0, .ref 34), (1, .int (nI i)), (2, .int (nI d))]) dX1_number_38 rfl (inc1 _) (Nat.le_of_ble_eq_true rfl) rfl ?_
    refine g_goto 5 dX1_number_41 (by decide) ?_
    exact ih (k + 1) (by omega)

set_option maxRecDepth 100000 in
set_option maxHeartbeats 4000000 in
theorem ev_number {h : List aC} {am : Nat} {W : List Nat} (hL : LtA h am W) (ha : am ≤ 72) (i d : Nat) (hd : d ≤ 2) (hi : i + d ≤ am) (hD : ∀ q, q < d → 48 ≤ W.getD (i + q) 0 ∧ W.getD (i + q) 0 ≤ 57) : Ev mX1_number 1 0 0 [.ref 34, .int (nI i), .int (nI d)] h (pv (.int (nI (nmV W i d))) h) := by
  refine Ev.of pX1_number (Nat.le_of_ble_eq_true rfl) ?_
  show G mX1_number (rmD 1 0 0) none _ 0 0 0 [(0, .ref 34), (1, .int (nI i)), (2, .int (nI d))] [] h
  refine g_iconst (v := nI 0) dX1_number_0 (by decide +kernel) ?_
  refine g_istore_n (ls' := [(3, .int (nI 0)), (0, .ref 34), (1, .int (nI i)), (2, .int (nI d))]) dX1_number_1 (Nat.le_of_ble_eq_true rfl) rfl ?_
  refine g_iload_n dX1_number_2 2 rfl ?_
  refine g_istore (ls' := [(4, .int (nI i)), (3, .int (nI 0)), (0, .ref 34), (1, .int (nI i)), (2, .int (nI d))]) dX1_number_3 (Nat.le_of_ble_eq_true rfl) rfl ?_
  exact lp_number hL ha i d hd hi hD d 0 (by omega)
