/-- whether a number is one of those that the first of pairs become by their adders -/
def shd (n : Nat) (F S : List Nat) (acc : List Nat) (t : Nat) : Bool := (List.range acc.length).any (fun i => (F.getD i 0 + acc.getD i 0) % n == t || (S.getD i 0 + acc.getD i 0) % n == t)
def okV (n : Nat) (F S : List Nat) (acc : List Nat) (v : Nat) : Bool := !acc.contains v && (!(decide ((F.getD acc.length 0 + v) % n = 0) || shd n F S acc ((F.getD acc.length 0 + v) % n)) && !(decide ((S.getD acc.length 0 + v) % n = 0) || shd n F S acc ((S.getD acc.length 0 + v) % n)))
def EA (n : Nat) (F S : List Nat) : Nat → List Nat → List (List Nat)
  | 0, acc => [acc]
  | d + 1, acc => EY (fun v => EA n F S d (acc ++ [v])) (okV n F S acc) (n - 1) 1
theorem EA_len {n : Nat} {F S : List Nat} (hn : n ≤ 13) : ∀ d acc, (EA n F S d acc).length ≤ 13 ^ d
  | 0, _ => Nat.le_refl 1
  | d + 1, acc => by
    have h := EY_len (fun v => EA_len (F := F) (S := S) hn d (acc ++ [v])) (ok := okV n F S acc) (n - 1) 1
    have h2 : (n - 1) * 13 ^ d ≤ 13 * 13 ^ d := Nat.mul_le_mul_right _ (by omega)
    have h3 : 13 ^ (d + 1) = 13 * 13 ^ d := by rw [Nat.pow_succ, Nat.mul_comm]
    show (EY _ _ _ _).length ≤ _
    omega
def mtA (A : List Nat) (acc : List Nat) : Prop := ∀ k, k < acc.length → A.getD k 0 = acc.getD k 0
def adC (ads : Nat) (acc : List Nat) : Prop := ads < 2 ^ 13 ∧ ∀ i, i < 13 → ads.testBit i = (decide (i = 0) || acc.contains i)
def shC (n sh : Nat) (F S acc : List Nat) : Prop := sh < 2 ^ 13 ∧ ∀ i, i < 13 → sh.testBit i = (decide (i = 0) || shd n F S acc i)
theorem getD_snoc_lt {acc : List Nat} {v i : Nat} (h : i < acc.length) : (acc ++ [v]).getD i 0 = acc.getD i 0 := by
  rw [List.getD_eq_getElem?_getD, List.getD_eq_getElem?_getD, List.getElem?_append_left h]
theorem getD_snoc_eq {acc : List Nat} {v : Nat} : (acc ++ [v]).getD acc.length 0 = v := by
  rw [List.getD_eq_getElem?_getD, List.getElem?_append_right (Nat.le_refl _), Nat.sub_self]
  rfl
theorem shd_snoc {n : Nat} {F S acc : List Nat} {v t : Nat} : shd n F S (acc ++ [v]) t = (shd n F S acc t || ((F.getD acc.length 0 + v) % n == t || (S.getD acc.length 0 + v) % n == t)) := by
  unfold shd
  rw [List.length_append]
  show (List.range (acc.length + 1)).any _ = _
  rw [List.range_succ, List.any_append, List.any_cons, List.any_nil, Bool.or_false, getD_snoc_eq]
  congr 1
  exact any_cong _ (fun i hi => by rw [getD_snoc_lt (List.mem_range.mp hi)])
theorem adC_add {ads : Nat} {acc : List Nat} (h : adC ads acc) {v : Nat} (hv : v < 13) : adC (ads ||| 2 ^ v) (acc ++ [v]) := by
  refine ⟨or_lt h.1 (pw_lt hv), fun i hi => ?_⟩
  rw [Nat.testBit_or, h.2 i hi, Nat.testBit_two_pow, List.contains_eq_any_beq, List.contains_eq_any_beq, List.any_append, List.any_cons, List.any_nil, Bool.or_false, Bool.or_assoc]
  congr 2
  rw [Bool.eq_iff_iff, decide_eq_true_eq, beq_iff_eq]
  exact ⟨fun z => z.symm, fun z => z.symm⟩
theorem shC_add {n sh : Nat} {F S acc : List Nat} (h : shC n sh F S acc) {v : Nat} (hn : n ≤ 13) (h0 : 0 < n) : shC n (sh ||| (2 ^ ((F.getD acc.length 0 + v) % n) ||| 2 ^ ((S.getD acc.length 0 + v) % n))) F S (acc ++ [v]) := by
  have h1 := Nat.mod_lt (F.getD acc.length 0 + v) h0
  have h2 := Nat.mod_lt (S.getD acc.length 0 + v) h0
  refine ⟨or_lt h.1 (or_lt (pw_lt (by omega)) (pw_lt (by omega))), fun i hi => ?_⟩
  rw [Nat.testBit_or, Nat.testBit_or, h.2 i hi, Nat.testBit_two_pow, Nat.testBit_two_pow, shd_snoc, Bool.or_assoc]
  congr 2
theorem adC_t {ads : Nat} {acc : List Nat} (h : adC ads acc) {v : Nat} (h1 : 1 ≤ v) (hv : v < 13) : ads.testBit v = acc.contains v := by
  rw [h.2 v hv, decide_eq_false (by omega), Bool.false_or]
theorem and_or0 (a i j : Nat) : a &&& (2 ^ i ||| 2 ^ j) = 0 ↔ a.testBit i = false ∧ a.testBit j = false := by
  constructor
  · intro h
    have e1 := congrArg (fun x => Nat.testBit x i) h
    have e2 := congrArg (fun x => Nat.testBit x j) h
    simp only [Nat.testBit_and, Nat.testBit_or, Nat.testBit_two_pow, Nat.zero_testBit, decide_true, Bool.true_or, Bool.or_true, Bool.and_true] at e1 e2
    exact ⟨e1, e2⟩
  · intro ⟨h1, h2⟩
    apply Nat.eq_of_testBit_eq
    intro q
    rw [Nat.testBit_and, Nat.testBit_or, Nat.testBit_two_pow, Nat.testBit_two_pow, Nat.zero_testBit]
    by_cases q1 : i = q
    · subst q1; rw [h1]; rfl
    · by_cases q2 : j = q
      · subst q2; rw [h2]; rfl
      · rw [decide_eq_false q1, decide_eq_false q2, Bool.or_false, Bool.and_false]
def aseekP (n m : Nat) (w : Int32) (F S : List Nat) (gs gk : Nat) (d : Nat) : Prop := ∀ (h : List aC) (acc : List Nat) (c : Nat) (A : List Nat) (ads sh : Nat), acc.length + d = m → XA h w c gs gk → PA h 85 n m F S A → mtA A acc → adC ads acc → shC n sh F S acc → nd (limOf w) c → c + (EA n F S d acc).length ≤ 2 ^ 30 →
  Ev mX5_seekAdders (6 + d) 0 0 [.ref 84, .int (nI acc.length), .int (nI ads), .int (nI sh)] h (fun r h2 => r = none ∧ ∃ c1 A1, XA h2 w c1 gs gk ∧ PA h2 85 n m F S A1 ∧ (∀ i, i < acc.length → A1.getD i 0 = A.getD i 0) ∧ Pst (limOf w) (EA n F S d acc) c c1 (mtA A1) ∧ Smo 84 89 h h2)
theorem mtA_snoc {A acc : List Nat} {v : Nat} (h : mtA A acc) (hA : acc.length < A.length) : mtA (A.set acc.length v) (acc ++ [v]) := by
  intro k hk
  rw [List.length_append] at hk
  have hk2 : k < acc.length + 1 := hk
  by_cases q : acc.length = k
  · subst q
    rw [getD_set_eq hA, getD_snoc_eq]
  · rw [getD_set_ne q, h k (by omega), getD_snoc_lt (by omega)]
theorem Ev.asA {d : Nat} {h : List aC} {q nums difs : Nat} {Q : List aC → Prop} (E : Ev mX5_seekAdders d 0 0 [.ref 84, .int (nI q), .int (nI nums), .int (nI difs)] h (fun r h2 => r = none ∧ Q h2)) (p : Nat) (e : q = p) : Ev mX5_seekAdders d 0 0 [.ref 84, .int (nI p), .int (nI nums), .int (nI difs)] h (pq none Q) := by
  subst e
  exact E

set_option maxRecDepth 100000 in
set_option maxHeartbeats 4000000 in
theorem aseek_0 {n m : Nat} {w : Int32} {F S : List Nat} {gs gk : Nat} (hn : 3 ≤ n ∧ n ≤ 13) (hm : m ≤ 6) (hb : ∀ k, k < m → F.getD k 0 < n ∧ S.getD k 0 < n) : aseekP n m w F S gs gk 0 := by
  intro h acc c A ads sh hl hX hP hM hB hD hnd hle
  refine Ev.of pX5_seekAdders (Nat.le_of_ble_eq_true rfl) ?_
  show G mX5_seekAdders (rmD (6 + 0) 0 0) none _ 0 0 0 [(0, .ref 84), (1, .int (nI acc.length)), (2, .int (nI ads)), (3, .int (nI sh))] [] h
  refine g_aload_n dX5_seekAdders_0 0 rfl ?_
  refine g_getf dX5_seekAdders_1 kX5 wfX5_10 (Nat.le_of_ble_eq_true rfl) (hX) rfl ?_
  refine g_astore (ls' := [(4, .ref 85), (0, .ref 84), (1, .int (nI acc.length)), (2, .int (nI ads)), (3, .int (nI sh))]) dX5_seekAdders_4 (Nat.le_of_ble_eq_true rfl) rfl ?_
  refine g_aload dX5_seekAdders_6 0 rfl ?_
  refine g_getf dX5_seekAdders_8 kX3 wfX5_60 (Nat.le_of_ble_eq_true rfl) (hP.1) rfl ?_
  refine g_istore (ls' := [(5, .int (nI n)), (4, .ref 85), (0, .ref 84), (1, .int (nI acc.length)), (2, .int (nI ads)), (3, .int (nI sh))]) dX5_seekAdders_11 (Nat.le_of_ble_eq_true rfl) rfl ?_
  refine g_iload_n dX5_seekAdders_13 3 rfl ?_
  refine g_aload dX5_seekAdders_14 1 rfl ?_
  refine g_getf dX5_seekAdders_16 kX3 wfX5_63 (Nat.le_of_ble_eq_true rfl) (hP.1) rfl ?_
  refine g_icmp_ltN 33 dX5_seekAdders_19 (by decide) (by omega) (by omega) (fun z => absurd z (by omega)) (fun c19 => ?_)
  refine g_aload_n dX5_seekAdders_22 2 rfl ?_
  refine g_dup dX5_seekAdders_23 rfl ?_
  refine g_getf dX5_seekAdders_24 kX5 wfX5_20 (Nat.le_of_ble_eq_true rfl) (hX) rfl ?_
  refine g_iconst (v := nI 1) dX5_seekAdders_27 (by decide +kernel) ?_
  refine g_iaddN dX5_seekAdders_28 ?_
  refine g_putv dX5_seekAdders_29 kX5 wfX5_20 (Nat.le_of_ble_eq_true rfl) rfl (fun _ _ => ⟨rfl, rfl⟩) (hX) (Nat.le_of_ble_eq_true rfl) (fs' := [.ref 85, .int w, .int (nI (c + 1)), .int (nI gs), .int (nI gk)]) rfl (fun h1 e1 => ?_)
  have f1_84 : rd h1 84 = some (.inr (5, [.ref 85, .int w, .int (nI (c + 1)), .int (nI gs), .int (nI gk)])) := by rw [e1]; exact rd_wr_eq (hX)
  have s1 : Smo 84 (84 + 1) h h1 := by rw [e1]; exact Smo.wr (by omega) (by omega)
  have b1_85 := hP.mv s1 (by omega)
  exact g_vret dX5_seekAdders_32 rfl ⟨Nat.zero_le _, Nat.zero_le _⟩ (⟨rfl, c + 1, A, f1_84, hP.mv (lo := 84) (hi := 85) (fun q hq => by rw [s1 q (by omega)]) (by omega), fun i _ => rfl, Pst_one hnd hM, (fun q hq => by rw [s1 q (by omega)])⟩)

set_option maxRecDepth 100000 in
set_option maxHeartbeats 4000000 in
theorem lp_aseek {n m : Nat} {w : Int32} {F S : List Nat} {gs gk : Nat} (hn : 3 ≤ n ∧ n ≤ 13) (hm : m ≤ 6) (hb : ∀ k, k < m → F.getD k 0 < n ∧ S.getD k 0 < n) {d : Nat} (ih0 : aseekP n m w F S gs gk d) {h0 : List aC} {acc : List Nat} {c0 : Nat} {A0 : List Nat} {ads sh : Nat} (hl : acc.length + (d + 1) = m) (hB : adC ads acc) (hD : shC n sh F S acc) (hnd : nd (limOf w) c0) (hle : c0 + (EA n F S (d + 1) acc).length ≤ 2 ^ 30) : ∀ j k (h : List aC) (c : Nat) (A : List Nat) (Lp : List (List Nat)), k + j = n → 1 ≤ k → XA h w c gs gk → PA h 85 n m F S A → mtA A acc → (∀ i, i < acc.length → A.getD i 0 = A0.getD i 0) → Lp ++ (EY (fun v => EA n F S d (acc ++ [v])) (okV n F S acc) j k) = (EA n F S (d + 1) acc) → Pst (limOf w) Lp c0 c (mtA A) → Smo 84 89 h0 h → G mX5_seekAdders (rmD (6 + (d + 1)) 0 0) none (fun r h2 => r = none ∧ ∃ c1 A1, XA h2 w c1 gs gk ∧ PA h2 85 n m F S A1 ∧ (∀ i, i < acc.length → A1.getD i 0 = A0.getD i 0) ∧ Pst (limOf w) (EA n F S (d + 1) acc) c0 c1 (mtA A1) ∧ Smo 84 89 h0 h2) 0 0 36 [(6, .int (nI k)), (5, .int (nI n)), (4, .ref 85), (0, .ref 84), (1, .int (nI acc.length)), (2, .int (nI ads)), (3, .int (nI sh))] [] h := by
  have ha1 := hB.1
  have ha2 := hD.1
  obtain ⟨bF, bS⟩ := hb acc.length (by omega)
  intro j
  induction j with
  | zero =>
    intro k h c A Lp hk hk1 hX hP hM hE hL hPs hS
    refine g_iload dX5_seekAdders_36 0 rfl ?_
    refine g_iload dX5_seekAdders_38 1 rfl ?_
    refine g_icmp_geN 135 dX5_seekAdders_40 (by decide) (by omega) (by omega) (fun c40 => ?_) (fun z => absurd z (by omega))
    exact g_vret dX5_seekAdders_135 rfl ⟨Nat.zero_le _, Nat.zero_le _⟩ (⟨rfl, c, A, hX, hP, hE, by rw [← hL]; show Pst (limOf w) (Lp ++ []) c0 c (mtA A); rw [List.append_nil]; exact hPs, hS⟩)
  | succ j ih =>
    intro k h c A Lp hk hk1 hX hP hM hE hL hPs hS
    obtain ⟨-, -, -, -, lF, lS, lA⟩ := id hP
    have zle := Pst_le hPs
    have zlen : Lp.length ≤ (EA n F S (d + 1) acc).length := by rw [← hL, List.length_append]; omega
    have w1 := Nat.mod_lt (F.getD acc.length 0 + k) (show 0 < n by omega)
    have w2 := Nat.mod_lt (S.getD acc.length 0 + k) (show 0 < n by omega)
    have z1 : ads / 2 ^ k &&& 1 ≤ 1 := Nat.and_le_right
    have z2 : sh &&& (2 ^ ((F.getD acc.length 0 + k) % n) ||| 2 ^ ((S.getD acc.length 0 + k) % n)) ≤ sh := Nat.and_le_left
    refine g_iload dX5_seekAdders_36 0 rfl ?_
    refine g_iload dX5_seekAdders_38 1 rfl ?_
    refine g_icmp_geN 135 dX5_seekAdders_40 (by decide) (by omega) (by omega) (fun z => absurd z (by omega)) (fun c40 => ?_)
    refine g_aload_n dX5_seekAdders_43 3 rfl ?_
    refine g_callVp dX5_seekAdders_44 (ev_hasWanted hX) oX5_hasWanted wiX5_hasWanted weX5_hasWanted wmX5_73 kX5 (hX) rfl ⟨Nat.le_trans (Nat.le_of_ble_eq_true rfl : _ ≤ 6) (by show 6 ≤ 6 + (d + 1); omega), Nat.le_trans (Nat.le_of_ble_eq_true rfl : _ ≤ 41 * 6) (by show 41 * 6 ≤ 41 * (6 + (d + 1)); omega)⟩ ⟨Nat.zero_le _, Nat.zero_le _⟩ (Nat.le_of_ble_eq_true rfl) rfl ?_
    refine g_if_neB 135 dX5_seekAdders_47 (by decide) (fun c47 => ?_) (fun c47 => ?_)
    · exact g_vret dX5_seekAdders_135 rfl ⟨Nat.zero_le _, Nat.zero_le _⟩ (⟨rfl, c, A, hX, hP, hE, by rw [← hL]; cases hlim : limOf w with | none => (rw [hw_none hlim] at c47; exact absurd c47 (by decide)) | some i => (rw [hw_some (by omega) hlim] at c47; rw [hlim] at hPs; exact Pst_done (hnd i hlim) hPs (of_decide_eq_true c47)), hS⟩)
    · refine g_iconst (v := nI 1) dX5_seekAdders_50 (by decide +kernel) ?_
      refine g_aload dX5_seekAdders_51 2 rfl ?_
      refine g_getf dX5_seekAdders_53 kX3 wfX5_81 (Nat.le_of_ble_eq_true rfl) (hP.1) rfl ?_
      refine g_iload_n dX5_seekAdders_56 4 rfl ?_
      refine g_ialN dX5_seekAdders_57 (hP.2.1) (by omega) (by omega) ?_
      refine g_iload dX5_seekAdders_58 0 rfl ?_
      refine g_iaddN dX5_seekAdders_60 ?_
      refine g_iload dX5_seekAdders_61 1 rfl ?_
      refine g_callSNp dX5_seekAdders_63 (ev_wrapN (((F).getD acc.length 0) + k) (n) (by omega) (by omega) (by omega) _) oX8_wrap wsX8_wrap wqX5_88 rfl ⟨Nat.le_trans (Nat.le_of_ble_eq_true rfl : _ ≤ 6) (by show 6 ≤ 6 + (d + 1); omega), Nat.le_trans (Nat.le_of_ble_eq_true rfl : _ ≤ 41 * 6) (by show 41 * 6 ≤ 41 * (6 + (d + 1)); omega)⟩ ⟨Nat.zero_le _, Nat.zero_le _⟩ (Nat.le_of_ble_eq_true rfl) rfl ?_
      refine g_ishl1 dX5_seekAdders_66 (by first | omega | exact Nat.lt_of_lt_of_le (Nat.mod_lt _ (by omega)) (by omega)) ?_
      refine g_iconst (v := nI 1) dX5_seekAdders_67 (by decide +kernel) ?_
      refine g_aload dX5_seekAdders_68 2 rfl ?_
      refine g_getf dX5_seekAdders_70 kX3 wfX5_85 (Nat.le_of_ble_eq_true rfl) (hP.1) rfl ?_
      refine g_iload_n dX5_seekAdders_73 4 rfl ?_
      refine g_ialN dX5_seekAdders_74 (hP.2.2.1) (by omega) (by omega) ?_
      refine g_iload dX5_seekAdders_75 0 rfl ?_
      refine g_iaddN dX5_seekAdders_77 ?_
      refine g_iload dX5_seekAdders_78 1 rfl ?_
      refine g_callSNp dX5_seekAdders_80 (ev_wrapN (((S).getD acc.length 0) + k) (n) (by omega) (by omega) (by omega) _) oX8_wrap wsX8_wrap wqX5_88 rfl ⟨Nat.le_trans (Nat.le_of_ble_eq_true rfl : _ ≤ 6) (by show 6 ≤ 6 + (d + 1); omega), Nat.le_trans (Nat.le_of_ble_eq_true rfl : _ ≤ 41 * 6) (by show 41 * 6 ≤ 41 * (6 + (d + 1)); omega)⟩ ⟨Nat.zero_le _, Nat.zero_le _⟩ (Nat.le_of_ble_eq_true rfl) rfl ?_
      refine g_ishl1 dX5_seekAdders_83 (by first | omega | exact Nat.lt_of_lt_of_le (Nat.mod_lt _ (by omega)) (by omega)) ?_
      refine g_iorN dX5_seekAdders_84 ?_
      refine g_istore (ls' := [(7, .int (nI ((2 ^ ((((F).getD acc.length 0) + k) % n)) ||| (2 ^ ((((S).getD acc.length 0) + k) % n))))), (6, .int (nI k)), (5, .int (nI n)), (4, .ref 85), (0, .ref 84), (1, .int (nI acc.length)), (2, .int (nI ads)), (3, .int (nI sh))]) dX5_seekAdders_85 (Nat.le_of_ble_eq_true rfl) rfl ?_
      refine g_iload_n dX5_seekAdders_87 6 rfl ?_
      refine g_iload dX5_seekAdders_88 1 rfl ?_
      refine g_ishrN dX5_seekAdders_90 (by omega) (by omega) ?_
      refine g_iconst (v := nI 1) dX5_seekAdders_91 (by decide +kernel) ?_
      refine g_iandN dX5_seekAdders_92 ?_
      refine g_if_neN 129 dX5_seekAdders_93 (by decide) (by omega) (fun c93 => ?_) (fun c93 => ?_)
      · refine g_iinc (q := 1) (v := nI (k + 1)) (ls' := [(6, .int (nI (k + 1))), (7, .int (nI ((2 ^ ((((F).getD acc.length 0) + k) % n)) ||| (2 ^ ((((S).getD acc.length 0) + k) % n))))), (5, .int (nI n)), (4, .ref 85), (0, .ref 84), (1, .int (nI acc.length)), (2, .int (nI ads)), (3, .int (nI sh))]) dX5_seekAdders_129 rfl (inc1 _) (Nat.le_of_ble_eq_true rfl) rfl ?_
        refine g_goto 36 dX5_seekAdders_132 (by decide) ?_
        refine g_lsub_ (ls2 := [(6, .int (nI (k + 1))), (5, .int (nI n)), (4, .ref 85), (0, .ref 84), (1, .int (nI acc.length)), (2, .int (nI ads)), (3, .int (nI sh))]) [0, 2, 3, 4, 5, 6, 7] rfl ?_
        have hok : ¬ okV n F S acc k = true := by
              unfold okV
              rw [← adC_t hB (show 1 ≤ k by omega) (by omega), ← hD.2 _ (show (F.getD acc.length 0 + k) % n < 13 by omega), ← hD.2 _ (show (S.getD acc.length 0 + k) % n < 13 by omega)]
              first
              | (rw [shr_bit] at c93
                 rcases Bool.eq_false_or_eq_true (ads.testBit k) with z | z
                 · rw [z, Bool.not_true, Bool.false_and]; decide
                 · rw [z] at c93; exact absurd c93 (by decide))
              | (intro z
                 rw [Bool.and_eq_true, Bool.and_eq_true] at z
                 have z1 : sh.testBit ((F.getD acc.length 0 + k) % n) = false := by have q := z.2.1; revert q; cases sh.testBit ((F.getD acc.length 0 + k) % n) <;> decide
                 have z2 : sh.testBit ((S.getD acc.length 0 + k) % n) = false := by have q := z.2.2; revert q; cases sh.testBit ((S.getD acc.length 0 + k) % n) <;> decide
                 rw [(and_or0 _ _ _).mpr ⟨z1, z2⟩] at c100
                 exact absurd c100 (by decide))
        exact ih (k + 1) h c A Lp (by omega) (by omega) hX hP hM hE (by rw [EY_f hok] at hL; exact hL) hPs hS
      · refine g_iload_n dX5_seekAdders_96 7 rfl ?_
        refine g_iload dX5_seekAdders_97 0 rfl ?_
        refine g_iandN dX5_seekAdders_99 ?_
        refine g_if_neN 129 dX5_seekAdders_100 (by decide) (by omega) (fun c100 => ?_) (fun c100 => ?_)
        · refine g_iinc (q := 1) (v := nI (k + 1)) (ls' := [(6, .int (nI (k + 1))), (7, .int (nI ((2 ^ ((((F).getD acc.length 0) + k) % n)) ||| (2 ^ ((((S).getD acc.length 0) + k) % n))))), (5, .int (nI n)), (4, .ref 85), (0, .ref 84), (1, .int (nI acc.length)), (2, .int (nI ads)), (3, .int (nI sh))]) dX5_seekAdders_129 rfl (inc1 _) (Nat.le_of_ble_eq_true rfl) rfl ?_
          refine g_goto 36 dX5_seekAdders_132 (by decide) ?_
          refine g_lsub_ (ls2 := [(6, .int (nI (k + 1))), (5, .int (nI n)), (4, .ref 85), (0, .ref 84), (1, .int (nI acc.length)), (2, .int (nI ads)), (3, .int (nI sh))]) [0, 2, 3, 4, 5, 6, 7] rfl ?_
          have hok : ¬ okV n F S acc k = true := by
                unfold okV
                rw [← adC_t hB (show 1 ≤ k by omega) (by omega), ← hD.2 _ (show (F.getD acc.length 0 + k) % n < 13 by omega), ← hD.2 _ (show (S.getD acc.length 0 + k) % n < 13 by omega)]
                first
                | (rw [shr_bit] at c93
                   rcases Bool.eq_false_or_eq_true (ads.testBit k) with z | z
                   · rw [z, Bool.not_true, Bool.false_and]; decide
                   · rw [z] at c93; exact absurd c93 (by decide))
                | (intro z
                   rw [Bool.and_eq_true, Bool.and_eq_true] at z
                   have z1 : sh.testBit ((F.getD acc.length 0 + k) % n) = false := by have q := z.2.1; revert q; cases sh.testBit ((F.getD acc.length 0 + k) % n) <;> decide
                   have z2 : sh.testBit ((S.getD acc.length 0 + k) % n) = false := by have q := z.2.2; revert q; cases sh.testBit ((S.getD acc.length 0 + k) % n) <;> decide
                   rw [(and_or0 _ _ _).mpr ⟨z1, z2⟩] at c100
                   exact absurd c100 (by decide))
          exact ih (k + 1) h c A Lp (by omega) (by omega) hX hP hM hE (by rw [EY_f hok] at hL; exact hL) hPs hS
        · refine g_aload dX5_seekAdders_103 3 rfl ?_
          refine g_getf dX5_seekAdders_105 kX3 wfX5_91 (Nat.le_of_ble_eq_true rfl) (hP.1) rfl ?_
          refine g_iload_n dX5_seekAdders_108 5 rfl ?_
          refine g_iload dX5_seekAdders_109 1 rfl ?_
          refine g_iasN dX5_seekAdders_111 (hP.2.2.2.1) (by omega) (by omega) (fun h1 e1 => ?_)
          have f1_88 : rd h1 88 = some (.inl (((A).set acc.length k).map nI)) := by rw [e1]; exact rd_wr_eq (hP.2.2.2.1)
          have s1 : Smo 88 (88 + 1) h h1 := by rw [e1]; exact Smo.wr (by omega) (by omega)
          have b1_84 := hX.mv s1 (by omega)
          have f1_85 : rd h1 85 = some (.inr (3, [.ref 86, .ref 87, .ref 88, .int (nI n), .int (nI m)])) := by rw [s1 _ (by omega)]; exact hP.1
          have f1_86 : rd h1 86 = some (.inl ((F).map nI)) := by rw [s1 _ (by omega)]; exact hP.2.1
          have f1_87 : rd h1 87 = some (.inl ((S).map nI)) := by rw [s1 _ (by omega)]; exact hP.2.2.1
          refine g_aload_n dX5_seekAdders_112 4 rfl ?_
          refine g_iload_n dX5_seekAdders_113 5 rfl ?_
          refine g_iconst (v := nI 1) dX5_seekAdders_114 (by decide +kernel) ?_
          refine g_iaddN dX5_seekAdders_115 ?_
          refine g_iload_n dX5_seekAdders_116 6 rfl ?_
          refine g_iconst (v := nI 1) dX5_seekAdders_117 (by decide +kernel) ?_
          refine g_iload dX5_seekAdders_118 1 rfl ?_
          refine g_ishl1 dX5_seekAdders_120 (by first | omega | exact Nat.lt_of_lt_of_le (Nat.mod_lt _ (by omega)) (by omega)) ?_
          refine g_iorN dX5_seekAdders_121 ?_
          refine g_iload_n dX5_seekAdders_122 7 rfl ?_
          refine g_iload dX5_seekAdders_123 0 rfl ?_
          refine g_iorN dX5_seekAdders_125 ?_
          have hnc : nd (limOf w) c := fun i hi => by rw [hw_some (by omega) hi] at c47; have := of_decide_eq_false c47; omega
          have hok : okV n F S acc k = true := by unfold okV; rw [← adC_t hB (show 1 ≤ k by omega) (by omega), ← hD.2 _ (show (F.getD acc.length 0 + k) % n < 13 by omega), ← hD.2 _ (show (S.getD acc.length 0 + k) % n < 13 by omega), show ads.testBit k = false by (rw [shr_bit] at c93; rcases Bool.eq_false_or_eq_true (ads.testBit k) with z | z; (rw [z] at c93; exact absurd c93 (by decide)); exact z), ((and_or0 _ _ _).mp c100).1, ((and_or0 _ _ _).mp c100).2]; rfl
          refine g_callSq (st1 := []) dX5_seekAdders_126 ((ih0 h1 (acc ++ [k]) c (A.set acc.length k) _ _ (by rw [List.length_append]; show acc.length + 1 + d = m; omega) b1_84 ⟨f1_85, f1_86, f1_87, f1_88, lF, lS, by simp [lA]⟩ (mtA_snoc hM (by omega)) (adC_add hB (by omega)) (shC_add hD hn.2 (by omega)) hnc (by have y := Pst_len hPs hnc; rw [← hL, EY_t hok, List.length_append, List.length_append] at hle; omega)).asA (acc.length + 1) (by rw [List.length_append]; rfl)) oX5_seekAdders wsX5_seekAdders wmX5_44 rfl ⟨by show 6 + d + 1 ≤ 6 + (d + 1); omega, by show 8 + (8 + 11) + 41 * (6 + d) ≤ 41 * (6 + (d + 1)); omega⟩ ⟨Nat.zero_le _, Nat.zero_le _⟩ (Nat.le_of_ble_eq_true rfl) rfl rfl (fun h2 q2 => ?_)
          obtain ⟨c1, A1, r1, r2, r3, r4, r6⟩ := q2
          refine g_iinc (q := 1) (v := nI (k + 1)) (ls' := [(6, .int (nI (k + 1))), (7, .int (nI ((2 ^ ((((F).getD acc.length 0) + k) % n)) ||| (2 ^ ((((S).getD acc.length 0) + k) % n))))), (5, .int (nI n)), (4, .ref 85), (0, .ref 84), (1, .int (nI acc.length)), (2, .int (nI ads)), (3, .int (nI sh))]) dX5_seekAdders_129 rfl (inc1 _) (Nat.le_of_ble_eq_true rfl) rfl ?_
          refine g_goto 36 dX5_seekAdders_132 (by decide) ?_
          refine g_lsub_ (ls2 := [(6, .int (nI (k + 1))), (5, .int (nI n)), (4, .ref 85), (0, .ref 84), (1, .int (nI acc.length)), (2, .int (nI ads)), (3, .int (nI sh))]) [0, 2, 3, 4, 5, 6, 7] rfl ?_
          exact ih (k + 1) _ c1 A1 (Lp ++ EA n F S d (acc ++ [k])) (by omega) (by omega) r1 r2 (fun i hi => by rw [r3 i (by rw [List.length_append]; omega), getD_set_ne (by omega)]; exact hM i hi) (fun i hi => by rw [r3 i (by rw [List.length_append]; omega), getD_set_ne (by omega)]; exact hE i hi) (by have y := hL; rw [EY_t hok] at y; rw [List.append_assoc]; exact y) (Pst_app hPs hnc r4) (hS.tr (Smo.tr (fun q hq => by rw [s1 q (by omega)]) r6))

set_option maxRecDepth 100000 in
set_option maxHeartbeats 4000000 in
theorem aseek_s {n m : Nat} {w : Int32} {F S : List Nat} {gs gk : Nat} (hn : 3 ≤ n ∧ n ≤ 13) (hm : m ≤ 6) (hb : ∀ k, k < m → F.getD k 0 < n ∧ S.getD k 0 < n) {d : Nat} (ih0 : aseekP n m w F S gs gk d) : aseekP n m w F S gs gk (d + 1) := by
  intro h acc c A ads sh hl hX hP hM hB hD hnd hle
  refine Ev.of pX5_seekAdders (Nat.le_of_ble_eq_true rfl) ?_
  show G mX5_seekAdders (rmD (6 + (d + 1)) 0 0) none _ 0 0 0 [(0, .ref 84), (1, .int (nI acc.length)), (2, .int (nI ads)), (3, .int (nI sh))] [] h
  refine g_aload_n dX5_seekAdders_0 0 rfl ?_
  refine g_getf dX5_seekAdders_1 kX5 wfX5_10 (Nat.le_of_ble_eq_true rfl) (hX) rfl ?_
  refine g_astore (ls' := [(4, .ref 85), (0, .ref 84), (1, .int (nI acc.length)), (2, .int (nI ads)), (3, .int (nI sh))]) dX5_seekAdders_4 (Nat.le_of_ble_eq_true rfl) rfl ?_
  refine g_aload dX5_seekAdders_6 0 rfl ?_
  refine g_getf dX5_seekAdders_8 kX3 wfX5_60 (Nat.le_of_ble_eq_true rfl) (hP.1) rfl ?_
  refine g_istore (ls' := [(5, .int (nI n)), (4, .ref 85), (0, .ref 84), (1, .int (nI acc.length)), (2, .int (nI ads)), (3, .int (nI sh))]) dX5_seekAdders_11 (Nat.le_of_ble_eq_true rfl) rfl ?_
  refine g_iload_n dX5_seekAdders_13 3 rfl ?_
  refine g_aload dX5_seekAdders_14 1 rfl ?_
  refine g_getf dX5_seekAdders_16 kX3 wfX5_63 (Nat.le_of_ble_eq_true rfl) (hP.1) rfl ?_
  refine g_icmp_ltN 33 dX5_seekAdders_19 (by decide) (by omega) (by omega) (fun c19 => ?_) (fun z => absurd z (by omega))
  refine g_iconst (v := nI 1) dX5_seekAdders_33 (by decide +kernel) ?_
  refine g_istore (ls' := [(6, .int (nI 1)), (5, .int (nI n)), (4, .ref 85), (0, .ref 84), (1, .int (nI acc.length)), (2, .int (nI ads)), (3, .int (nI sh))]) dX5_seekAdders_34 (Nat.le_of_ble_eq_true rfl) rfl ?_
  exact lp_aseek hn hm hb ih0 hl hB hD hnd hle (n - 1) 1 h c A [] (by omega) (Nat.le_refl _) hX hP hM (fun i _ => rfl) rfl (Pst_nil hnd) Smo.rf

theorem aseek_all {n m : Nat} {w : Int32} {F S : List Nat} {gs gk : Nat} (hn : 3 ≤ n ∧ n ≤ 13) (hm : m ≤ 6) (hb : ∀ k, k < m → F.getD k 0 < n ∧ S.getD k 0 < n) : ∀ d, aseekP n m w F S gs gk d
  | 0 => aseek_0 hn hm hb
  | d + 1 => aseek_s hn hm hb (aseek_all hn hm hb d)
theorem adC_0 : adC 1 [] := by
  refine ⟨by decide, fun i hi => ?_⟩
  rw [show (1 : Nat) = 2 ^ 0 from rfl, Nat.testBit_two_pow]
  show decide (0 = i) = (decide (i = 0) || false)
  rw [Bool.or_false]
  exact decide_eq_decide.mpr ⟨fun z => z.symm, fun z => z.symm⟩
theorem shC_0 (n : Nat) (F S : List Nat) : shC n 1 F S [] := by
  refine ⟨by decide, fun i hi => ?_⟩
  rw [show (1 : Nat) = 2 ^ 0 from rfl, Nat.testBit_two_pow]
  show decide (0 = i) = (decide (i = 0) || false)
  rw [Bool.or_false]
  exact decide_eq_decide.mpr ⟨fun z => z.symm, fun z => z.symm⟩
theorem EA_small {n d : Nat} {F S : List Nat} (hn : n ≤ 13) (hd : d ≤ 6) (acc : List Nat) : 0 + (EA n F S d acc).length ≤ 2 ^ 30 := by
  have h1 := EA_len (F := F) (S := S) hn d acc
  have h2 : 13 ^ d ≤ 13 ^ 6 := Nat.pow_le_pow_right (by decide) hd
  have h3 : 13 ^ 6 ≤ 2 ^ 30 := by decide
  omega

set_option maxRecDepth 100000 in
set_option maxHeartbeats 4000000 in
theorem ev_goAdders {h : List aC} {w0 : Int32} {c gs gk n0 m0 : Nat} {F S A : List Nat} (hX : XA h w0 c gs gk) (hP : PA h 85 n0 m0 F S A) {p n m : Nat} {F2 S2 A2 : List Nat} (hP2 : PA h p n m F2 S2 A2) (hd : p + 4 ≤ 84 ∨ 89 ≤ p) (hn : 3 ≤ n ∧ n ≤ 13) (hm : m ≤ 6) (hb : ∀ k, k < m → F2.getD k 0 < n ∧ S2.getD k 0 < n) (w : Int32) : Ev mX5_goThroughAdders 13 0 0 [.ref 84, .ref p, .int w] h (pq none (fun h2 => ∃ c1 A1, XA h2 w c1 0 0 ∧ PA h2 85 n m F2 S2 A1 ∧ Pst (limOf w) (EA n F2 S2 m []) 0 c1 (mtA A1) ∧ Smo 84 89 h h2)) := by
  refine Ev.of pX5_goThroughAdders (Nat.le_of_ble_eq_true rfl) ?_
  show G mX5_goThroughAdders (rmD 13 0 0) none _ 0 0 0 [(0, .ref 84), (1, .ref p), (2, .int w)] [] h
  refine g_aload_n dX5_goThroughAdders_0 0 rfl ?_
  refine g_iload_n dX5_goThroughAdders_1 2 rfl ?_
  refine g_callVq (st1 := []) dX5_goThroughAdders_2 (ev_begin hX (w)) oX5_begin wiX5_begin weX5_begin wmX5_29 kX5 (hX) rfl ⟨(Nat.le_of_ble_eq_true rfl), (Nat.le_of_ble_eq_true rfl)⟩ ⟨Nat.zero_le _, Nat.zero_le _⟩ (Nat.le_of_ble_eq_true rfl) rfl rfl (fun h1 q1 => ?_)
  obtain ⟨q1a, q1s⟩ := q1
  have b1_85 := hP.mv q1s (by omega)
  have b1_p := hP2.mv q1s (by omega)
  refine g_aload_n dX5_goThroughAdders_5 0 rfl ?_
  refine g_getf dX5_goThroughAdders_6 kX5 wfX5_10 (Nat.le_of_ble_eq_true rfl) (q1a) rfl ?_
  refine g_aload_n dX5_goThroughAdders_9 1 rfl ?_
  refine g_callVq (st1 := []) dX5_goThroughAdders_10 (ev_copyFrom b1_85 b1_p (by omega)) oX3_copyFrom wiX3_copyFrom weX3_copyFrom wmX5_40 kX3 (b1_85.1) rfl ⟨(Nat.le_of_ble_eq_true rfl), (Nat.le_of_ble_eq_true rfl)⟩ ⟨Nat.zero_le _, Nat.zero_le _⟩ (Nat.le_of_ble_eq_true rfl) rfl rfl (fun h2 q2 => ?_)
  obtain ⟨q2a, q2s⟩ := q2
  have b2_84 := q1a.mv q2s (by omega)
  have b2_p := b1_p.mv q2s (by omega)
  refine g_aload_n dX5_goThroughAdders_13 0 rfl ?_
  refine g_iconst (v := nI 0) dX5_goThroughAdders_14 (by decide +kernel) ?_
  refine g_iconst (v := nI 1) dX5_goThroughAdders_15 (by decide +kernel) ?_
  refine g_iconst (v := nI 1) dX5_goThroughAdders_16 (by decide +kernel) ?_
  refine g_callSq (st1 := []) dX5_goThroughAdders_17 ((aseek_all hn hm hb m h2 [] 0 _ 1 1 (Nat.zero_add m) b2_84 q2a (fun k hk => absurd hk (Nat.not_lt_zero k)) adC_0 (shC_0 n F2 S2) (fun i _ => Nat.zero_le i) (EA_small hn.2 hm [])).asA 0 rfl) oX5_seekAdders wsX5_seekAdders wmX5_44 rfl ⟨by show 6 + m + 1 ≤ 13; omega, by show 8 + (8 + 11) + 41 * (6 + m) ≤ 41 * 13; omega⟩ ⟨Nat.zero_le _, Nat.zero_le _⟩ (Nat.le_of_ble_eq_true rfl) rfl rfl (fun h3 q3 => ?_)
  obtain ⟨c1, A1, r1, r2, r3, r4, r6⟩ := q3
  exact g_vret dX5_goThroughAdders_20 rfl ⟨Nat.zero_le _, Nat.zero_le _⟩ (⟨rfl, c1, A1, r1, r2, r4, Smo.tr (fun q hq => by rw [q2s q (by omega), q1s q (by omega)]) r6⟩)
