set_option maxRecDepth 100000 in
set_option maxHeartbeats 4000000 in
theorem ev_digitsOf (c : Nat) (hc : c < 2 ^ 31) (h : List aC) : Ev mX9_digitsOf 1 0 0 [.int (nI c)] h (pv (.int (nI (lnO c - 2))) h) := by
  refine Ev.of pX9_digitsOf (Nat.le_of_ble_eq_true rfl) ?_
  show G mX9_digitsOf (rmD 1 0 0) none _ 0 0 0 [(0, .int (nI c))] [] h
  refine g_iload_n dX9_digitsOf_0 0 rfl ?_
  refine g_bipush (v := nI 110) dX9_digitsOf_1 (by decide +kernel) ?_
  refine g_icmp_neN 10 dX9_digitsOf_3 (by decide) (by omega) (by omega) (fun c3 => ?_) (fun c3 => ?_)
  · refine g_iload_n dX9_digitsOf_10 0 rfl ?_
    refine g_bipush (v := nI 112) dX9_digitsOf_11 (by decide +kernel) ?_
    refine g_icmp_neN 20 dX9_digitsOf_13 (by decide) (by omega) (by omega) (fun c13 => ?_) (fun c13 => ?_)
    · refine g_iload_n dX9_digitsOf_20 0 rfl ?_
      refine g_bipush (v := nI 97) dX9_digitsOf_21 (by decide +kernel) ?_
      refine g_icmp_eqN 32 dX9_digitsOf_23 (by decide) (by omega) (by omega) (fun c23 => ?_) (fun c23 => ?_)
      · refine g_iconst (v := nI 3) dX9_digitsOf_32 (by decide +kernel) ?_
        refine g_goto 37 dX9_digitsOf_33 (by decide) ?_
        exact g_iret dX9_digitsOf_37 rfl ⟨Nat.zero_le _, Nat.zero_le _⟩ (⟨by rw [show lnO c - 2 = 3 by rw [show lnO c = 5 from (if_neg c3).trans ((if_neg c13).trans (if_pos (Or.inl c23)))]], rfl⟩)
      · refine g_iload_n dX9_digitsOf_26 0 rfl ?_
        refine g_bipush (v := nI 116) dX9_digitsOf_27 (by decide +kernel) ?_
        refine g_icmp_neN 36 dX9_digitsOf_29 (by decide) (by omega) (by omega) (fun c29 => ?_) (fun c29 => ?_)
        · refine g_iconst (v := nI 0) dX9_digitsOf_36 (by decide +kernel) ?_
          exact g_iret dX9_digitsOf_37 rfl ⟨Nat.zero_le _, Nat.zero_le _⟩ (⟨by rw [show lnO c - 2 = 0 by rw [show lnO c = 0 from (if_neg c3).trans ((if_neg c13).trans (if_neg (fun z => by rcases z with z | z; exact c23 z; exact c29 z)))]], rfl⟩)
        · refine g_iconst (v := nI 3) dX9_digitsOf_32 (by decide +kernel) ?_
          refine g_goto 37 dX9_digitsOf_33 (by decide) ?_
          exact g_iret dX9_digitsOf_37 rfl ⟨Nat.zero_le _, Nat.zero_le _⟩ (⟨by rw [show lnO c - 2 = 3 by rw [show lnO c = 5 from (if_neg c3).trans ((if_neg c13).trans (if_pos (Or.inr c29)))]], rfl⟩)
    · refine g_iconst (v := nI 4) dX9_digitsOf_16 (by decide +kernel) ?_
      refine g_goto 37 dX9_digitsOf_17 (by decide) ?_
      exact g_iret dX9_digitsOf_37 rfl ⟨Nat.zero_le _, Nat.zero_le _⟩ (⟨by rw [show lnO c - 2 = 4 by rw [show lnO c = 6 from (if_neg c3).trans (if_pos c13)]], rfl⟩)
  · refine g_iconst (v := nI 2) dX9_digitsOf_6 (by decide +kernel) ?_
    refine g_goto 37 dX9_digitsOf_7 (by decide) ?_
    exact g_iret dX9_digitsOf_37 rfl ⟨Nat.zero_le _, Nat.zero_le _⟩ (⟨by rw [show lnO c - 2 = 2 by rw [show lnO c = 4 from if_pos c3]], rfl⟩)

theorem in_dig {x : Nat} (hx : x < 2 ^ 31) : decide (nI 48 ≤ nI x ∧ nI x ≤ nI 57) = decide (48 ≤ x ∧ x ≤ 57) := by
  congr 1
  apply propext
  rw [nI_leI (by omega) hx, nI_leI hx (by omega)]
theorem ev_inK (x a b : Nat) (hx : x < 2 ^ 31) (ha : a < 2 ^ 31) (hb : b < 2 ^ 31) (h : List aC) : Ev mX9_in 1 0 0 [.long (lN x), .long (lN a), .long (lN b)] h (pv (.int (nI (bI (decide (a ≤ x ∧ x ≤ b))))) h) := by
  have z := ev_inN (nI x) a b ha hb h
  rw [nI_l hx, show decide (nI a ≤ nI x ∧ nI x ≤ nI b) = decide (a ≤ x ∧ x ≤ b) from by congr 1; apply propext; rw [nI_leI ha hx, nI_leI hx hb]] at z
  exact z
theorem wp_0 {W : List Nat} {i l : Nat} (h : l ≠ 0 ∨ i = 0) : wp W 0 i l = some i := if_pos h
theorem wp_n {W : List Nat} {i l : Nat} (h : ¬ (l ≠ 0 ∨ i = 0)) : wp W 0 i l = none := if_neg h

set_option maxRecDepth 100000 in
set_option maxHeartbeats 4000000 in
theorem lp_dig {h : List aC} {n m a de : Nat} {fo as_ sm sk z : Int32} {am : Nat} {ib : Bool} {iN iM iT : Int32} (hO : MO h n m a de fo as_ sm sk z am ib iN iM iT) {W : List Nat} (hW : rd h 111 = some (.inl (W.map nI))) (lW : W.length = 72) (ha : am ≤ 72) (okw : ∀ i, i < am → W.getD i 0 < 256) {g : Nat} (hg : g ≤ 4) {Y : Option Nat} {q0 : Nat} (hq0 : 1 ≤ q0) (K : ∀ j p, p + j = am → q0 ≤ p → wp W j p 1 = Y → G mX9_wrongPlace (rmD 2 0 0) none (pv (.int (wI Y)) h) 0 0 78 [(3, .int (nI g)), (2, .int (nI g)), (1, .int (nI p)), (0, .ref 98)] [] h) : ∀ r j p k, k + r = g → p + j = am → q0 ≤ p → wp W j p (r + 1) = Y → G mX9_wrongPlace (rmD 2 0 0) none (pv (.int (wI Y)) h) 0 0 35 [(3, .int (nI k)), (2, .int (nI g)), (1, .int (nI p)), (0, .ref 98)] [] h := by
  intro r
  induction r with
  | zero =>
    intro j p k hk hj hp hw
    have hO : rd h 98 = some (.inr (9, [.int (nI n), .int (nI m), .ref 99, .ref 100, .ref 101, .int (nI a), .ref 102, .int (nI de), .ref 103, .ref 104, .ref 105, .int fo, .int as_, .int sm, .int sk, .ref 106, .ref 107, .ref 108, .int z, .ref 109, .ref 110, .ref 111, .int (nI am), .ref 112, .ref 113, .ref 114, .ref 115, .ref 116, .int (nI (bI ib)), .int iN, .int iM, .int iT, .ref 117, .ref 118, .ref 119])) := hO
    refine g_iload_n dX9_wrongPlace_35 0 rfl ?_
    refine g_iload_n dX9_wrongPlace_36 1 rfl ?_
    refine g_icmp_geN 78 dX9_wrongPlace_37 (by decide) (by omega) (by omega) (fun c37 => ?_) (fun z => absurd z (by omega))
    have ek : k = g := by omega
    subst ek
    exact K j p hj hp hw
  | succ r ih =>
    intro j p k hk hj hp hw
    have hO : rd h 98 = some (.inr (9, [.int (nI n), .int (nI m), .ref 99, .ref 100, .ref 101, .int (nI a), .ref 102, .int (nI de), .ref 103, .ref 104, .ref 105, .int fo, .int as_, .int sm, .int sk, .ref 106, .ref 107, .ref 108, .int z, .ref 109, .ref 110, .ref 111, .int (nI am), .ref 112, .ref 113, .ref 114, .ref 115, .ref 116, .int (nI (bI ib)), .int iN, .int iM, .int iT, .ref 117, .ref 118, .ref 119])) := hO
    refine g_iload_n dX9_wrongPlace_35 0 rfl ?_
    refine g_iload_n dX9_wrongPlace_36 1 rfl ?_
    refine g_icmp_geN 78 dX9_wrongPlace_37 (by decide) (by omega) (by omega) (fun z => absurd z (by omega)) (fun c37 => ?_)
    refine g_iload_n dX9_wrongPlace_40 2 rfl ?_
    refine g_aload_n dX9_wrongPlace_41 3 rfl ?_
    refine g_getf dX9_wrongPlace_42 kX9 wfX9_238 (Nat.le_of_ble_eq_true rfl) (hO) rfl ?_
    refine g_icmp_geN 67 dX9_wrongPlace_45 (by decide) (by omega) (by omega) (fun c45 => ?_) (fun c45 => ?_)
    · refine g_iload_n dX9_wrongPlace_67 2 rfl ?_
      exact g_iret dX9_wrongPlace_68 rfl ⟨Nat.zero_le _, Nat.zero_le _⟩ (⟨by rw [← hw, show j = 0 by omega, wp_0 (Or.inl (by omega))]; rfl, rfl⟩)
    · have ow := okw p (by omega)
      obtain ⟨j2, ej⟩ : ∃ j2, j = j2 + 1 := ⟨j - 1, by omega⟩
      refine g_aload_n dX9_wrongPlace_48 3 rfl ?_
      refine g_getf dX9_wrongPlace_49 kX9 wfX9_50 (Nat.le_of_ble_eq_true rfl) (hO) rfl ?_
      refine g_iload_n dX9_wrongPlace_52 2 rfl ?_
      refine g_ialN dX9_wrongPlace_53 (hW) (by omega) (by omega) ?_
      refine g_i2l (v := lN ((W).getD p 0)) dX9_wrongPlace_54 (nI_l (by omega)) ?_
      refine g_ldc2 dX9_wrongPlace_55 wlX9_244 ?_
      refine g_ldc2 dX9_wrongPlace_58 wlX9_246 ?_
      refine g_callSp dX9_wrongPlace_61 (ev_inK (W.getD p 0) 48 57 (by omega) (by decide) (by decide) _) oX9_in wsX9_in wmX9_98 rfl ⟨(Nat.le_of_ble_eq_true rfl), (Nat.le_of_ble_eq_true rfl)⟩ ⟨Nat.zero_le _, Nat.zero_le _⟩ (Nat.le_of_ble_eq_true rfl) rfl ?_
      refine g_if_neB 69 dX9_wrongPlace_64 (by decide) (fun c64 => ?_) (fun c64 => ?_)
      · refine g_iinc (q := 2) (v := nI (p + 1)) (ls' := [(1, .int (nI (p + 1))), (3, .int (nI k)), (2, .int (nI g)), (0, .ref 98)]) dX9_wrongPlace_69 rfl (inc1 _) (Nat.le_of_ble_eq_true rfl) rfl ?_
        refine g_iinc (q := 1) (v := nI (k + 1)) (ls' := [(3, .int (nI (k + 1))), (1, .int (nI (p + 1))), (2, .int (nI g)), (0, .ref 98)]) dX9_wrongPlace_72 rfl (inc1 _) (Nat.le_of_ble_eq_true rfl) rfl ?_
        refine g_goto 35 dX9_wrongPlace_75 (by decide) ?_
        refine g_lsub_ (ls2 := [(3, .int (nI (k + 1))), (2, .int (nI g)), (1, .int (nI (p + 1))), (0, .ref 98)]) [0, 2, 1, 3] rfl ?_
        have dg := of_decide_eq_true c64
        exact ih j2 (p + 1) (k + 1) (by omega) (by omega) (by omega) (by rw [← hw, ej, wp_d (by omega) (by omega)]; rfl)
      · refine g_iload_n dX9_wrongPlace_67 2 rfl ?_
        exact g_iret dX9_wrongPlace_68 rfl ⟨Nat.zero_le _, Nat.zero_le _⟩ (⟨by rw [← hw, ej, wp_c (by omega) (Or.inr ⟨by omega, by have := of_decide_eq_false c64; omega⟩)]; rfl, rfl⟩)

theorem lnO_z (c : Nat) : lnO c = 0 ∨ 4 ≤ lnO c := by unfold lnO; split; omega; split; omega; split <;> omega

set_option maxRecDepth 100000 in
set_option maxHeartbeats 4000000 in
theorem lp_wpl {h : List aC} {n m a de : Nat} {fo as_ sm sk z : Int32} {am : Nat} {ib : Bool} {iN iM iT : Int32} (hO : MO h n m a de fo as_ sm sk z am ib iN iM iT) {W : List Nat} (hW : rd h 111 = some (.inl (W.map nI))) (lW : W.length = 72) (ha : am ≤ 72) (okw : ∀ i, i < am → W.getD i 0 < 256) {Y : Option Nat} : ∀ b j p, j ≤ b → p + j = am → (0 < j ∨ p = 0) → wp W j p 0 = Y → G mX9_wrongPlace (rmD 2 0 0) none (pv (.int (wI Y)) h) 0 0 2 [(1, .int (nI p)), (0, .ref 98)] [] h := by
  intro b
  induction b with
  | zero =>
    intro j p hb hj hp hw
    have hO : rd h 98 = some (.inr (9, [.int (nI n), .int (nI m), .ref 99, .ref 100, .ref 101, .int (nI a), .ref 102, .int (nI de), .ref 103, .ref 104, .ref 105, .int fo, .int as_, .int sm, .int sk, .ref 106, .ref 107, .ref 108, .int z, .ref 109, .ref 110, .ref 111, .int (nI am), .ref 112, .ref 113, .ref 114, .ref 115, .ref 116, .int (nI (bI ib)), .int iN, .int iM, .int iT, .ref 117, .ref 118, .ref 119])) := hO
    have hb : j ≤ 0 := hb
    refine g_iload_n dX9_wrongPlace_2 0 rfl ?_
    refine g_aload_n dX9_wrongPlace_3 1 rfl ?_
    refine g_getf dX9_wrongPlace_4 kX9 wfX9_238 (Nat.le_of_ble_eq_true rfl) (hO) rfl ?_
    refine g_icmp_geN 22 dX9_wrongPlace_7 (by decide) (by omega) (by omega) (fun c7 => ?_) (fun z => absurd z (by omega))
    refine g_iconst (v := nI 0) dX9_wrongPlace_22 (by decide +kernel) ?_
    refine g_istore_n (ls' := [(2, .int (nI 0)), (1, .int (nI p)), (0, .ref 98)]) dX9_wrongPlace_23 (Nat.le_of_ble_eq_true rfl) rfl ?_
    refine g_iload_n dX9_wrongPlace_24 0 rfl ?_
    refine g_if_neN 30 dX9_wrongPlace_25 (by decide) (by omega) (fun z => absurd z (by omega)) (fun c25 => ?_)
    refine g_iload_n dX9_wrongPlace_28 1 rfl ?_
    exact g_iret dX9_wrongPlace_29 rfl ⟨Nat.zero_le _, Nat.zero_le _⟩ (⟨by rw [← hw, show j = 0 by omega, wp_0 (Or.inr (by omega))]; rfl, rfl⟩)
  | succ b ih =>
    intro j p hb hj hp hw
    have hO : rd h 98 = some (.inr (9, [.int (nI n), .int (nI m), .ref 99, .ref 100, .ref 101, .int (nI a), .ref 102, .int (nI de), .ref 103, .ref 104, .ref 105, .int fo, .int as_, .int sm, .int sk, .ref 106, .ref 107, .ref 108, .int z, .ref 109, .ref 110, .ref 111, .int (nI am), .ref 112, .ref 113, .ref 114, .ref 115, .ref 116, .int (nI (bI ib)), .int iN, .int iM, .int iT, .ref 117, .ref 118, .ref 119])) := hO
    refine g_iload_n dX9_wrongPlace_2 0 rfl ?_
    refine g_aload_n dX9_wrongPlace_3 1 rfl ?_
    refine g_getf dX9_wrongPlace_4 kX9 wfX9_238 (Nat.le_of_ble_eq_true rfl) (hO) rfl ?_
    refine g_icmp_geN 22 dX9_wrongPlace_7 (by decide) (by omega) (by omega) (fun c7 => ?_) (fun c7 => ?_)
    · refine g_iconst (v := nI 0) dX9_wrongPlace_22 (by decide +kernel) ?_
      refine g_istore_n (ls' := [(2, .int (nI 0)), (1, .int (nI p)), (0, .ref 98)]) dX9_wrongPlace_23 (Nat.le_of_ble_eq_true rfl) rfl ?_
      refine g_iload_n dX9_wrongPlace_24 0 rfl ?_
      refine g_if_neN 30 dX9_wrongPlace_25 (by decide) (by omega) (fun z => absurd z (by omega)) (fun c25 => ?_)
      refine g_iload_n dX9_wrongPlace_28 1 rfl ?_
      exact g_iret dX9_wrongPlace_29 rfl ⟨Nat.zero_le _, Nat.zero_le _⟩ (⟨by rw [← hw, show j = 0 by omega, wp_0 (Or.inr (by omega))]; rfl, rfl⟩)
    · have ow := okw p (by omega)
      obtain ⟨j2, ej⟩ : ∃ j2, j = j2 + 1 := ⟨j - 1, by omega⟩
      have lz := lnO_z (W.getD p 0)
      have ll := lnO_le (W.getD p 0)
      refine g_aload_n dX9_wrongPlace_10 1 rfl ?_
      refine g_getf dX9_wrongPlace_11 kX9 wfX9_50 (Nat.le_of_ble_eq_true rfl) (hO) rfl ?_
      refine g_iload_n dX9_wrongPlace_14 0 rfl ?_
      refine g_ialN dX9_wrongPlace_15 (hW) (by omega) (by omega) ?_
      refine g_callSp dX9_wrongPlace_16 (ev_digitsOf ((W).getD p 0) (by omega) _) oX9_digitsOf wsX9_digitsOf wmX9_241 rfl ⟨(Nat.le_of_ble_eq_true rfl), (Nat.le_of_ble_eq_true rfl)⟩ ⟨Nat.zero_le _, Nat.zero_le _⟩ (Nat.le_of_ble_eq_true rfl) rfl ?_
      refine g_goto 23 dX9_wrongPlace_19 (by decide) ?_
      refine g_istore_n (ls' := [(2, .int (nI (lnO ((W).getD p 0) - 2))), (1, .int (nI p)), (0, .ref 98)]) dX9_wrongPlace_23 (Nat.le_of_ble_eq_true rfl) rfl ?_
      refine g_iload_n dX9_wrongPlace_24 0 rfl ?_
      refine g_if_neN 30 dX9_wrongPlace_25 (by decide) (by omega) (fun c25 => ?_) (fun c25 => ?_)
      · refine g_iinc (q := 1) (v := nI (p + 1)) (ls' := [(1, .int (nI (p + 1))), (2, .int (nI (lnO ((W).getD p 0) - 2))), (0, .ref 98)]) dX9_wrongPlace_30 rfl (inc1 _) (Nat.le_of_ble_eq_true rfl) rfl ?_
        refine g_iconst (v := nI 0) dX9_wrongPlace_33 (by decide +kernel) ?_
        refine g_istore_n (ls' := [(3, .int (nI 0)), (1, .int (nI (p + 1))), (2, .int (nI (lnO ((W).getD p 0) - 2))), (0, .ref 98)]) dX9_wrongPlace_34 (Nat.le_of_ble_eq_true rfl) rfl ?_
        refine g_lsub_ (ls2 := [(3, .int (nI 0)), (2, .int (nI (lnO ((W).getD p 0) - 2))), (1, .int (nI (p + 1))), (0, .ref 98)]) [0, 2, 1, 3] rfl ?_
        refine lp_dig hO hW lW ha okw (g := lnO (W.getD p 0) - 2) (Y := Y) (by omega) (q0 := p + 1) (by omega) (fun j3 p3 hj3 hp3 hw3 => ?_) (lnO (W.getD p 0) - 2) j2 (p + 1) 0 (by omega) (by omega) (by omega) (by rw [← hw, ej, wp_b rfl (by omega), show lnO (W.getD p 0) - 2 + 1 = lnO (W.getD p 0) - 1 by omega])
        refine g_iload_n dX9_wrongPlace_78 2 rfl ?_
        refine g_aload_n dX9_wrongPlace_79 3 rfl ?_
        refine g_getf dX9_wrongPlace_80 kX9 wfX9_238 (Nat.le_of_ble_eq_true rfl) (hO) rfl ?_
        refine g_icmp_geN 97 dX9_wrongPlace_83 (by decide) (by omega) (by omega) (fun c83 => ?_) (fun c83 => ?_)
        · refine g_iload_n dX9_wrongPlace_97 2 rfl ?_
          exact g_iret dX9_wrongPlace_98 rfl ⟨Nat.zero_le _, Nat.zero_le _⟩ (⟨by rw [← hw3, show j3 = 0 by omega]; rfl, rfl⟩)
        · have ow3 := okw p3 (by omega)
          obtain ⟨j4, ej3⟩ : ∃ j4, j3 = j4 + 1 := ⟨j3 - 1, by omega⟩
          refine g_aload_n dX9_wrongPlace_86 3 rfl ?_
          refine g_getf dX9_wrongPlace_87 kX9 wfX9_50 (Nat.le_of_ble_eq_true rfl) (hO) rfl ?_
          refine g_iload_n dX9_wrongPlace_90 2 rfl ?_
          refine g_ialN dX9_wrongPlace_91 (hW) (by omega) (by omega) ?_
          refine g_bipush (v := nI 59) dX9_wrongPlace_92 (by decide +kernel) ?_
          refine g_icmp_eqN 99 dX9_wrongPlace_94 (by decide) (by omega) (by omega) (fun c94 => ?_) (fun c94 => ?_)
          · have e3 : wp W j4 (p3 + 1) 0 = Y := by rw [← hw3, ej3, wp_d (by omega) (fun z => by rcases z with z | z; exact z.2 c94; exact z.1 rfl)]
            refine g_iinc (q := 2) (v := nI (p3 + 1)) (ls' := [(1, .int (nI (p3 + 1))), (3, .int (nI (lnO (W.getD p 0) - 2))), (2, .int (nI (lnO (W.getD p 0) - 2))), (0, .ref 98)]) dX9_wrongPlace_99 rfl (inc1 _) (Nat.le_of_ble_eq_true rfl) rfl ?_
            refine g_iload_n dX9_wrongPlace_102 0 rfl ?_
            refine g_aload_n dX9_wrongPlace_103 3 rfl ?_
            refine g_getf dX9_wrongPlace_104 kX9 wfX9_238 (Nat.le_of_ble_eq_true rfl) (hO) rfl ?_
            refine g_icmp_ltN 2 dX9_wrongPlace_107 (by decide) (by omega) (by omega) (fun c107 => ?_) (fun c107 => ?_)
            · refine g_lsub_ (ls2 := [(1, .int (nI (p3 + 1))), (0, .ref 98)]) [0, 3] rfl ?_
              exact ih j4 (p3 + 1) (by omega) (by omega) (Or.inl (by omega)) e3
            · refine g_iconst (v := (-1)) dX9_wrongPlace_110 (by decide +kernel) ?_
              exact g_iret dX9_wrongPlace_111 rfl ⟨Nat.zero_le _, Nat.zero_le _⟩ (⟨by rw [← e3, show j4 = 0 by omega, wp_n (by omega)]; rfl, rfl⟩)
          · refine g_iload_n dX9_wrongPlace_97 2 rfl ?_
            exact g_iret dX9_wrongPlace_98 rfl ⟨Nat.zero_le _, Nat.zero_le _⟩ (⟨by rw [← hw3, ej3, wp_c (by omega) (Or.inl ⟨rfl, c94⟩)]; rfl, rfl⟩)
      · refine g_iload_n dX9_wrongPlace_28 1 rfl ?_
        exact g_iret dX9_wrongPlace_29 rfl ⟨Nat.zero_le _, Nat.zero_le _⟩ (⟨by rw [← hw, ej, wp_a rfl (by have := lnO_z (W.getD p 0); omega)]; rfl, rfl⟩)

set_option maxRecDepth 100000 in
set_option maxHeartbeats 4000000 in
theorem ev_wrongP {h : List aC} {n m a de : Nat} {fo as_ sm sk z : Int32} {am : Nat} {ib : Bool} {iN iM iT : Int32} (hO : MO h n m a de fo as_ sm sk z am ib iN iM iT) {W : List Nat} (hW : rd h 111 = some (.inl (W.map nI))) (lW : W.length = 72) (ha : am ≤ 72) (okw : ∀ i, i < am → W.getD i 0 < 256) : Ev mX9_wrongPlace 2 0 0 [.ref 98] h (pv (.int (wI (wp W am 0 0))) h) := by
  refine Ev.of pX9_wrongPlace (Nat.le_of_ble_eq_true rfl) ?_
  show G mX9_wrongPlace (rmD 2 0 0) none _ 0 0 0 [(0, .ref 98)] [] h
  refine g_iconst (v := nI 0) dX9_wrongPlace_0 (by decide +kernel) ?_
  refine g_istore_n (ls' := [(1, .int (nI 0)), (0, .ref 98)]) dX9_wrongPlace_1 (Nat.le_of_ble_eq_true rfl) rfl ?_
  exact lp_wpl hO hW lW ha okw am am 0 (Nat.le_refl _) (by omega) (Or.inr rfl) rfl

set_option maxRecDepth 100000 in
set_option maxHeartbeats 4000000 in
theorem lp_num {h : List aC} {n m a de : Nat} {fo as_ sm sk z : Int32} {am : Nat} {ib : Bool} {iN iM iT : Int32} (hO : MO h n m a de fo as_ sm sk z am ib iN iM iT) {W : List Nat} (hW : rd h 111 = some (.inl (W.map nI))) (lW : W.length = 72) {i g : Nat} (hg : g ≤ 2) (hi : i + g ≤ 72) (hq : ∀ q, q < g → 48 ≤ W.getD (i + q) 0 ∧ W.getD (i + q) 0 ≤ 57) : ∀ j k , k + j = g → G mX9_numberAt (rmD 1 0 0) none (pv (.int (nI (nmV W i g))) h) 0 0 5 [(4, .int (nI k)), (3, .int (nI (nmV W i k))), (0, .ref 98), (1, .int (nI i)), (2, .int (nI g))] [] h := by
  intro j
  induction j with
  | zero =>
    intro k  hk 
    have hO : rd h 98 = some (.inr (9, [.int (nI n), .int (nI m), .ref 99, .ref 100, .ref 101, .int (nI a), .ref 102, .int (nI de), .ref 103, .ref 104, .ref 105, .int fo, .int as_, .int sm, .int sk, .ref 106, .ref 107, .ref 108, .int z, .ref 109, .ref 110, .ref 111, .int (nI am), .ref 112, .ref 113, .ref 114, .ref 115, .ref 116, .int (nI (bI ib)), .int iN, .int iM, .int iT, .ref 117, .ref 118, .ref 119])) := hO
    refine g_iload dX9_numberAt_5 0 rfl ?_
    refine g_iload_n dX9_numberAt_7 4 rfl ?_
    refine g_icmp_geN 35 dX9_numberAt_8 (by decide) (by omega) (by omega) (fun c8 => ?_) (fun z => absurd z (by omega))
    refine g_iload_n dX9_numberAt_35 1 rfl ?_
    exact g_iret dX9_numberAt_36 rfl ⟨Nat.zero_le _, Nat.zero_le _⟩ (⟨by rw [show k = g by omega], rfl⟩)
  | succ j ih =>
    intro k  hk 
    have hO : rd h 98 = some (.inr (9, [.int (nI n), .int (nI m), .ref 99, .ref 100, .ref 101, .int (nI a), .ref 102, .int (nI de), .ref 103, .ref 104, .ref 105, .int fo, .int as_, .int sm, .int sk, .ref 106, .ref 107, .ref 108, .int z, .ref 109, .ref 110, .ref 111, .int (nI am), .ref 112, .ref 113, .ref 114, .ref 115, .ref 116, .int (nI (bI ib)), .int iN, .int iM, .int iT, .ref 117, .ref 118, .ref 119])) := hO
    obtain ⟨d1, d2⟩ := hq k (by omega)
    have nl := nmV_lt (W := W) (i := i) k (fun q h2 => hq q (by omega))
    have nl2 : 10 ^ k ≤ 10 ^ 2 := Nat.pow_le_pow_right (by decide) (by omega)
    refine g_iload dX9_numberAt_5 0 rfl ?_
    refine g_iload_n dX9_numberAt_7 4 rfl ?_
    refine g_icmp_geN 35 dX9_numberAt_8 (by decide) (by omega) (by omega) (fun z => absurd z (by omega)) (fun c8 => ?_)
    refine g_bipush (v := nI 10) dX9_numberAt_11 (by decide +kernel) ?_
    refine g_iload_n dX9_numberAt_13 1 rfl ?_
    refine g_imulN dX9_numberAt_14 ?_
    refine g_aload_n dX9_numberAt_15 2 rfl ?_
    refine g_getf dX9_numberAt_16 kX9 wfX9_50 (Nat.le_of_ble_eq_true rfl) (hO) rfl ?_
    refine g_iload_n dX9_numberAt_19 3 rfl ?_
    refine g_iload dX9_numberAt_20 0 rfl ?_
    refine g_iaddN dX9_numberAt_22 ?_
    refine g_ialN dX9_numberAt_23 (hW) (by omega) (by omega) ?_
    refine g_iaddN dX9_numberAt_24 ?_
    refine g_bipush (v := nI 48) dX9_numberAt_25 (by decide +kernel) ?_
    refine g_isubN dX9_numberAt_27 (by omega) ?_
    refine g_top (show nI (((10 * (nmV W i k)) + ((W).getD (i + k) 0)) - 48) = nI (nmV W i (k + 1)) from rfl) ?_
    refine g_istore_n (ls' := [(3, .int (nI (nmV W i (k + 1)))), (4, .int (nI k)), (0, .ref 98), (1, .int (nI i)), (2, .int (nI g))]) dX9_numberAt_28 (Nat.le_of_ble_eq_true rfl) rfl ?_
    refine g_iinc (q := 1) (v := nI (k + 1)) (ls' := [(4, .int (nI (k + 1))), (3, .int (nI (nmV W i (k + 1)))), (0, .ref 98), (1, .int (nI i)), (2, .int (nI g))]) dX9_numberAt_29 rfl (inc1 _) (Nat.le_of_ble_eq_true rfl) rfl ?_
    refine g_goto 5 dX9_numberAt_32 (by decide) ?_
    exact ih (k + 1) (by omega)

set_option maxRecDepth 100000 in
set_option maxHeartbeats 4000000 in
theorem ev_numAt {h : List aC} {n m a de : Nat} {fo as_ sm sk z : Int32} {am : Nat} {ib : Bool} {iN iM iT : Int32} (hO : MO h n m a de fo as_ sm sk z am ib iN iM iT) {W : List Nat} (hW : rd h 111 = some (.inl (W.map nI))) (lW : W.length = 72) (i g : Nat) (hg : g ≤ 2) (hi : i + g ≤ 72) (hq : ∀ q, q < g → 48 ≤ W.getD (i + q) 0 ∧ W.getD (i + q) 0 ≤ 57) : Ev mX9_numberAt 1 0 0 [.ref 98, .int (nI i), .int (nI g)] h (pv (.int (nI (nmV W i g))) h) := by
  refine Ev.of pX9_numberAt (Nat.le_of_ble_eq_true rfl) ?_
  show G mX9_numberAt (rmD 1 0 0) none _ 0 0 0 [(0, .ref 98), (1, .int (nI i)), (2, .int (nI g))] [] h
  refine g_iconst (v := nI 0) dX9_numberAt_0 (by decide +kernel) ?_
  refine g_istore_n (ls' := [(3, .int (nI 0)), (0, .ref 98), (1, .int (nI i)), (2, .int (nI g))]) dX9_numberAt_1 (Nat.le_of_ble_eq_true rfl) rfl ?_
  refine g_iconst (v := nI 0) dX9_numberAt_2 (by decide +kernel) ?_
  refine g_istore (ls' := [(4, .int (nI 0)), (3, .int (nI 0)), (0, .ref 98), (1, .int (nI i)), (2, .int (nI g))]) dX9_numberAt_3 (Nat.le_of_ble_eq_true rfl) rfl ?_
  exact lp_num hO hW lW hg hi hq g 0 (by omega)
