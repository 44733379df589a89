def x1M (n : Nat) (F S : List Nat) (d k x : Nat) : Nat := if (F.getD k 0 + n - S.getD k 0) % n = d then F.getD k 0 else x
def xM (n : Nat) (F S : List Nat) (d : Nat) : Nat → Nat
  | 0 => 0
  | k + 1 => if (S.getD k 0 + n - F.getD k 0) % n = d then S.getD k 0 else x1M n F S d k (xM n F S d k)
theorem xM_lt {n m : Nat} {F S A : List Nat} {d : Nat} (h0 : 0 < n) (hb : bnd n m F S A) : ∀ k, k ≤ m → xM n F S d k < n
  | 0, _ => h0
  | k + 1, h => by
    have ih := xM_lt (d := d) h0 hb k (by omega)
    obtain ⟨a, b, -⟩ := hb k (by omega)
    show (if _ then _ else x1M n F S d k (xM n F S d k)) < n
    unfold x1M
    split
    · exact b
    · split
      · exact a
      · exact ih
/-- pair k has the difference d -/
def mtD (n : Nat) (F S : List Nat) (d k : Nat) : Prop := (F.getD k 0 + n - S.getD k 0) % n = d ∨ (S.getD k 0 + n - F.getD k 0) % n = d
theorem opp {n a b : Nat} (ha : a < n) (hb : b < n) : ((a + n - b) % n = 0 ∧ (b + n - a) % n = 0 ∧ a = b) ∨ ((b + n - a) % n = n - (a + n - b) % n ∧ 0 < (a + n - b) % n ∧ (a + n - b) % n < n) := by
  by_cases q : a = b
  · subst q
    have e : (a + n - a) % n = 0 := by rw [show a + n - a = n by omega, Nat.mod_self]
    exact Or.inl ⟨e, e, rfl⟩
  · refine Or.inr ?_
    by_cases w : b < a
    · have e1 : (a + n - b) % n = a - b := by rw [show a + n - b = (a - b) + n by omega, Nat.add_mod_right, Nat.mod_eq_of_lt (by omega)]
      have e2 : (b + n - a) % n = b + n - a := Nat.mod_eq_of_lt (by omega)
      omega
    · have e1 : (b + n - a) % n = b - a := by rw [show b + n - a = (b - a) + n by omega, Nat.add_mod_right, Nat.mod_eq_of_lt (by omega)]
      have e2 : (a + n - b) % n = a + n - b := Nat.mod_eq_of_lt (by omega)
      omega
theorem pop_or1 {x p : Nat} (hp : p < 14) : popN (x ||| 2 ^ p) 14 ≤ popN x 14 + 1 := by
  rw [pop_or hp]
  have := bIle (!x.testBit p)
  omega
theorem pop_dup {x p : Nat} (hp : p < 14) (h : x.testBit p = true) : popN (x ||| 2 ^ p) 14 = popN x 14 := by
  rw [pop_or hp, h]; rfl
theorem dB_pop {n : Nat} {F S : List Nat} (h0 : 0 < n) (hn : n ≤ 13) (k : Nat) : popN (dBits n F S (k + 1)) 14 ≤ popN (dBits n F S k) 14 + 2 := by
  show popN ((dBits n F S k ||| 2 ^ _) ||| 2 ^ _) 14 ≤ _
  have l1 := Nat.mod_lt (F.getD k 0 + n - S.getD k 0) h0
  have l2 := Nat.mod_lt (S.getD k 0 + n - F.getD k 0) h0
  have a := pop_or1 (x := dBits n F S k ||| 2 ^ ((F.getD k 0 + n - S.getD k 0) % n)) (p := (S.getD k 0 + n - F.getD k 0) % n) (by omega)
  have b := pop_or1 (x := dBits n F S k) (p := (F.getD k 0 + n - S.getD k 0) % n) (by omega)
  omega
theorem dB_pop2 {n : Nat} {F S : List Nat} (h0 : 0 < n) (hn : n ≤ 13) (j : Nat) : ∀ i, popN (dBits n F S (j + i)) 14 ≤ popN (dBits n F S j) 14 + 2 * i
  | 0 => Nat.le_refl _
  | i + 1 => by
    have a := dB_pop2 (F := F) (S := S) h0 hn j i
    have b := dB_pop (F := F) (S := S) h0 hn (j + i)
    have b : popN (dBits n F S (j + (i + 1))) 14 ≤ popN (dBits n F S (j + i)) 14 + 2 := b
    omega
theorem dB_bit {n : Nat} {F S : List Nat} {p : Nat} : ∀ k, (dBits n F S k).testBit p = true ↔ ∃ i, i < k ∧ mtD n F S p i
  | 0 => by
    rw [show dBits n F S 0 = 0 from rfl, Nat.zero_testBit]
    exact ⟨fun h => absurd h (by decide), fun ⟨i, hi, _⟩ => absurd hi (Nat.not_lt_zero i)⟩
  | k + 1 => by
    show ((dBits n F S k ||| 2 ^ ((F.getD k 0 + n - S.getD k 0) % n)) ||| 2 ^ ((S.getD k 0 + n - F.getD k 0) % n)).testBit p = true ↔ _
    rw [Nat.testBit_or, Nat.testBit_or, Bool.or_eq_true, Bool.or_eq_true, dB_bit k, Nat.testBit_two_pow, Nat.testBit_two_pow, decide_eq_true_eq, decide_eq_true_eq]
    constructor
    · rintro ((⟨i, hi, e⟩ | e) | e)
      · exact ⟨i, by omega, e⟩
      · exact ⟨k, by omega, Or.inl e⟩
      · exact ⟨k, by omega, Or.inr e⟩
    · rintro ⟨i, hi, e⟩
      by_cases q : i = k
      · subst q
        rcases e with e | e
        · exact Or.inl (Or.inr e)
        · exact Or.inr e
      · exact Or.inl (Or.inl ⟨i, by omega, e⟩)
theorem pop_all : ∀ n, n < 14 → popN (2 ^ n - 2) 14 = n - 1 := by decide +kernel
/-- in a starter a difference comes once -/
theorem mt_uni {n m : Nat} {F S A : List Nat} (hb : bnd n m F S A) (hn : n ≤ 13) (h3 : 3 ≤ n) (odd : n % 2 = 1) (st : isSt n m F S = true) {d i j : Nat} (hij : i < j) (hj : j < m) (a : mtD n F S d i) : ¬ mtD n F S d j := fun b => by
  obtain ⟨hm, -, hd⟩ := of_decide_eq_true st
  obtain ⟨x1, x2, -⟩ := hb i (by omega)
  obtain ⟨y1, y2, -⟩ := hb j (by omega)
  have l1 := Nat.mod_lt (F.getD j 0 + n - S.getD j 0) (show 0 < n by omega)
  have l2 := Nat.mod_lt (S.getD j 0 + n - F.getD j 0) (show 0 < n by omega)
  have t1 : (dBits n F S j).testBit ((F.getD j 0 + n - S.getD j 0) % n) = true := (dB_bit j).mpr ⟨i, hij, by
    have p1 := opp x1 x2
    have p2 := opp y1 y2
    unfold mtD at a b ⊢
    omega⟩
  have t2 : (dBits n F S j).testBit ((S.getD j 0 + n - F.getD j 0) % n) = true := (dB_bit j).mpr ⟨i, hij, by
    have p1 := opp x1 x2
    have p2 := opp y1 y2
    unfold mtD at a b ⊢
    omega⟩
  have e : popN (dBits n F S (j + 1)) 14 = popN (dBits n F S j) 14 := by
    show popN ((dBits n F S j ||| 2 ^ _) ||| 2 ^ _) 14 = _
    rw [pop_dup (by omega) (by rw [Nat.testBit_or, t2, Bool.true_or]), pop_dup (by omega) t1]
  have u := dB_pop2 (F := F) (S := S) (show 0 < n by omega) hn (j + 1) (m - (j + 1))
  have v := dB_pop2 (F := F) (S := S) (show 0 < n by omega) hn 0 j
  rw [show j + 1 + (m - (j + 1)) = m by omega, e, hd, pop_all n (by omega)] at u
  rw [Nat.zero_add, show popN (dBits n F S 0) 14 = 0 by show popN 0 14 = 0; decide] at v
  omega
theorem xM_no {n : Nat} {F S : List Nat} {d k : Nat} (h : ¬ mtD n F S d k) : xM n F S d (k + 1) = xM n F S d k := by
  show (if _ then _ else x1M n F S d k (xM n F S d k)) = _
  unfold x1M
  rw [if_neg (fun z => h (Or.inr z)), if_neg (fun z => h (Or.inl z))]
theorem xM_rest {n : Nat} {F S : List Nat} {d k : Nat} : ∀ i, (∀ q, k ≤ q → q < k + i → ¬ mtD n F S d q) → xM n F S d (k + i) = xM n F S d k
  | 0, _ => rfl
  | i + 1, h => (xM_no (h (k + i) (by omega) (by omega))).trans (xM_rest i (fun q a b => h q a (by omega)))
theorem xM_nAh {n m : Nat} {F S A : List Nat} (hb : bnd n m F S A) (hn : n ≤ 13) (h3 : 3 ≤ n) (odd : n % 2 = 1) (st : isSt n m F S = true) {d : Nat} (h1 : 1 ≤ d) (h2 : d ≤ (n - 1) / 2) : ∀ j k, k + j = m → xM n F S d k = 0 → xM n F S d m = nAh n F S d j k
  | 0, k, hk, h => by rw [show m = k by omega]; exact h
  | j + 1, k, hk, h => by
    obtain ⟨y1, y2, -⟩ := hb k (by omega)
    have p := opp y1 y2
    rw [nAh_step]
    by_cases q : mtD n F S d k
    · have e : xM n F S d m = xM n F S d (k + 1) := by
        have z := xM_rest (n := n) (F := F) (S := S) (d := d) (k := k + 1) j (fun w a b => mt_uni hb hn h3 odd st (by omega) (by omega) q)
        rw [show k + 1 + j = m by omega] at z
        exact z
      rw [e]
      show (if _ then _ else x1M n F S d k (xM n F S d k)) = _
      unfold x1M
      by_cases c : (F.getD k 0 + n - S.getD k 0) % n = d
      · rw [if_neg (by omega), if_pos c, if_pos c]
      · have c2 : (S.getD k 0 + n - F.getD k 0) % n = d := by unfold mtD at q; omega
        rw [if_pos c2, if_neg c, if_pos (by omega)]
    · rw [if_neg (fun z => q (Or.inl z)), if_neg (fun z => q (Or.inr (by omega)))]
      exact xM_nAh hb hn h3 odd st h1 h2 j (k + 1) (by omega) ((xM_no q).trans h)
def pM (n d : Nat) : Nat := if d % 2 = 0 then d / 2 else (n + d) / 2
theorem pM_book0 : ∀ n, n < 14 → ∀ d, d < 7 → (3 ≤ n ∧ n % 2 = 1 ∧ 1 ≤ d ∧ d ≤ (n - 1) / 2) → nAh n (qF (fB n)) (qS (fB n)) d ((n - 1) / 2) 0 = pM n d := by decide +kernel
theorem pM_book (n : Nat) (a : n < 14) (b : 3 ≤ n) (c : n % 2 = 1) (d : Nat) (e : d < 7) (f : 1 ≤ d) (g : d ≤ (n - 1) / 2) : nAh n (qF (fB n)) (qS (fB n)) d ((n - 1) / 2) 0 = pM n d := pM_book0 n a d e ⟨b, c, f, g⟩
theorem pM_all1 : ∀ n, n < 14 → ∀ d, d < 7 → (3 ≤ n ∧ n % 2 = 1 ∧ 1 ≤ d ∧ d ≤ (n - 1) / 2) → 1 ≤ pM n d ∧ pM n d < n ∧ 2 * pM n d % n = d := by decide +kernel
def pMx (n d p : Nat) : Bool := decide (3 ≤ n ∧ n % 2 = 1 ∧ 1 ≤ d ∧ d ≤ (n - 1) / 2 ∧ 1 ≤ p ∧ p < pM n d ∧ 2 * p % n = d)
theorem pM_all2 : ∀ n, n < 14 → ∀ d, d < 7 → ∀ p, p < 13 → pMx n d p = false := by decide +kernel
theorem pM_all (n : Nat) (a : n < 14) (b : 3 ≤ n) (c : n % 2 = 1) (d : Nat) (e : d < 7) (f : 1 ≤ d) (g : d ≤ (n - 1) / 2) : 1 ≤ pM n d ∧ pM n d < n ∧ 2 * pM n d % n = d ∧ ∀ p, p < 13 → 1 ≤ p → p < pM n d → ¬ 2 * p % n = d := by
  obtain ⟨x, y, z⟩ := pM_all1 n a d e ⟨b, c, f, g⟩
  exact ⟨x, y, z, fun p h1 h2 h3 h4 => of_decide_eq_false (pM_all2 n a d e p h1) ⟨b, c, f, g, h2, h3, h4⟩⟩

set_option maxRecDepth 100000 in
set_option maxHeartbeats 4000000 in
theorem lp_msh1 {h : List aC} {P : Option Value → List aC → Prop} {n m a de : Nat} {fo as_ sm sk z : Int32} {am : Nat} {ib : Bool} {iN iM iT : Int32} (hO : MO h n m a de fo as_ sm sk z am ib iN iM iT) (n3 : n ≤ 13) (hm : m ≤ 6) {P1 : List Int32} (hP : rd h 99 = some (.inl P1)) (lP : P1.length = 18) {f : Nat → Pr} (vP : pR P1 0 m f) (k5 : ∀ k, k < m → okPr n (f k)) {d : Nat} (hd : d ≤ 6) (K : G mX9_shift (rmD 2 0 0) none P 0 0 100 [(3, .int (nI m)), (2, .int (nI (xM n (qF f) (qS f) d m))), (0, .ref 98), (1, .int (nI d))] [] h) : ∀ j k , k + j = m → G mX9_shift (rmD 2 0 0) none P 0 0 4 [(3, .int (nI k)), (2, .int (nI (xM n (qF f) (qS f) d k))), (0, .ref 98), (1, .int (nI d))] [] h := by
  intro j
  induction j with
  | zero =>
    intro k  hk 
    have hO : rd h 98 = some (.inr (9, [.int (nI n), .int (nI m), .ref 99, .ref 100, .ref 101, .int (nI a), .ref 102, .int (nI de), .ref 103, .ref 104, .ref 105, .int fo, .int as_, .int sm, .int sk, .ref 106, .ref 107, .ref 108, .int z, .ref 109, .ref 110, .ref 111, .int (nI am), .ref 112, .ref 113, .ref 114, .ref 115, .ref 116, .int (nI (bI ib)), .int iN, .int iM, .int iT, .ref 117, .ref 118, .ref 119])) := hO
    refine g_iload_n dX9_shift_4 0 rfl ?_
    refine g_aload_n dX9_shift_5 2 rfl ?_
    refine g_getf dX9_shift_6 kX9 wfX9_87 (Nat.le_of_ble_eq_true rfl) (hO) rfl ?_
    refine g_icmp_geN 100 dX9_shift_9 (by decide) (by omega) (by omega) (fun c9 => ?_) (fun z => absurd z (by omega))
    have ek : k = m := by omega
    subst ek
    exact K
  | succ j ih =>
    intro k  hk 
    have hO : rd h 98 = some (.inr (9, [.int (nI n), .int (nI m), .ref 99, .ref 100, .ref 101, .int (nI a), .ref 102, .int (nI de), .ref 103, .ref 104, .ref 105, .int fo, .int as_, .int sm, .int sk, .ref 106, .ref 107, .ref 108, .int z, .ref 109, .ref 110, .ref 111, .int (nI am), .ref 112, .ref 113, .ref 114, .ref 115, .ref 116, .int (nI (bI ib)), .int iN, .int iM, .int iT, .ref 117, .ref 118, .ref 119])) := hO
    obtain ⟨e1, e2, e3⟩ := pq_ (n := n) vP hm (show k < m by omega)
    obtain ⟨b1, b2, b3⟩ := bnd_q hm k5 k (by omega)
    have xl := xM_lt (d := d) (show 0 < n by omega) (bnd_q hm k5) k (by omega)
    have ml := Nat.mod_lt ((qF f).getD k 0 + n - (qS f).getD k 0) (show 0 < n by omega)
    have ml2 := Nat.mod_lt ((qS f).getD k 0 + n - (qF f).getD k 0) (show 0 < n by omega)
    refine g_iload_n dX9_shift_4 0 rfl ?_
    refine g_aload_n dX9_shift_5 2 rfl ?_
    refine g_getf dX9_shift_6 kX9 wfX9_87 (Nat.le_of_ble_eq_true rfl) (hO) rfl ?_
    refine g_icmp_geN 100 dX9_shift_9 (by decide) (by omega) (by omega) (fun z => absurd z (by omega)) (fun c9 => ?_)
    refine g_aload_n dX9_shift_12 2 rfl ?_
    refine g_aload_n dX9_shift_13 2 rfl ?_
    refine g_getf dX9_shift_14 kX9 wfX9_13 (Nat.le_of_ble_eq_true rfl) (hO) rfl ?_
    refine g_iconst (v := nI 3) dX9_shift_17 (by decide +kernel) ?_
    refine g_iload_n dX9_shift_18 0 rfl ?_
    refine g_imulN dX9_shift_19 ?_
    refine g_ialI dX9_shift_20 (hP) (by omega) (by omega) ?_
    refine g_top (show (P1).getD (3 * k) 0 = nI ((qF f).getD k 0) from e1) ?_
    refine g_aload_n dX9_shift_21 2 rfl ?_
    refine g_getf dX9_shift_22 kX9 wfX9_13 (Nat.le_of_ble_eq_true rfl) (hO) rfl ?_
    refine g_iconst (v := nI 3) dX9_shift_25 (by decide +kernel) ?_
    refine g_iload_n dX9_shift_26 0 rfl ?_
    refine g_imulN dX9_shift_27 ?_
    refine g_iconst (v := nI 1) dX9_shift_28 (by decide +kernel) ?_
    refine g_iaddN dX9_shift_29 ?_
    refine g_ialI dX9_shift_30 (hP) (by omega) (by omega) ?_
    refine g_top (show (P1).getD ((3 * k) + 1) 0 = nI ((qS f).getD k 0) from e2) ?_
    refine g_isub dX9_shift_31 ?_
    refine g_callVp dX9_shift_32 (ev_wholeR hO n3 ((qF f).getD k 0) ((qS f).getD k 0) b1 b2) oX9_whole wiX9_whole weX9_whole wmX9_129 kX9 (hO) rfl ⟨(Nat.le_of_ble_eq_true rfl), (Nat.le_of_ble_eq_true rfl)⟩ ⟨Nat.zero_le _, Nat.zero_le _⟩ (Nat.le_of_ble_eq_true rfl) rfl ?_
    refine g_iload_n dX9_shift_35 3 rfl ?_
    refine g_icmp_neN 50 dX9_shift_36 (by decide) (by omega) (by omega) (fun c36 => ?_) (fun c36 => ?_)
    · refine g_iload_n dX9_shift_50 1 rfl ?_
      refine g_top (show nI (xM n (qF f) (qS f) d k) = nI (x1M n (qF f) (qS f) d k (xM n (qF f) (qS f) d k)) from congrArg nI (if_neg c36).symm) ?_
      refine g_istore_n (ls' := [(2, .int (nI (x1M n (qF f) (qS f) d k (xM n (qF f) (qS f) d k)))), (3, .int (nI k)), (0, .ref 98), (1, .int (nI d))]) dX9_shift_51 (Nat.le_of_ble_eq_true rfl) rfl ?_
      refine g_aload_n dX9_shift_52 2 rfl ?_
      refine g_aload_n dX9_shift_53 2 rfl ?_
      refine g_getf dX9_shift_54 kX9 wfX9_13 (Nat.le_of_ble_eq_true rfl) (hO) rfl ?_
      refine g_iconst (v := nI 3) dX9_shift_57 (by decide +kernel) ?_
      refine g_iload_n dX9_shift_58 1 rfl ?_
      refine g_imulN dX9_shift_59 ?_
      refine g_iconst (v := nI 1) dX9_shift_60 (by decide +kernel) ?_
      refine g_iaddN dX9_shift_61 ?_
      refine g_ialI dX9_shift_62 (hP) (by omega) (by omega) ?_
      refine g_top (show (P1).getD ((3 * k) + 1) 0 = nI ((qS f).getD k 0) from e2) ?_
      refine g_aload_n dX9_shift_63 2 rfl ?_
      refine g_getf dX9_shift_64 kX9 wfX9_13 (Nat.le_of_ble_eq_true rfl) (hO) rfl ?_
      refine g_iconst (v := nI 3) dX9_shift_67 (by decide +kernel) ?_
      refine g_iload_n dX9_shift_68 1 rfl ?_
      refine g_imulN dX9_shift_69 ?_
      refine g_ialI dX9_shift_70 (hP) (by omega) (by omega) ?_
      refine g_top (show (P1).getD (3 * k) 0 = nI ((qF f).getD k 0) from e1) ?_
      refine g_isub dX9_shift_71 ?_
      refine g_callVp dX9_shift_72 (ev_wholeR hO n3 ((qS f).getD k 0) ((qF f).getD k 0) b2 b1) oX9_whole wiX9_whole weX9_whole wmX9_129 kX9 (hO) rfl ⟨(Nat.le_of_ble_eq_true rfl), (Nat.le_of_ble_eq_true rfl)⟩ ⟨Nat.zero_le _, Nat.zero_le _⟩ (Nat.le_of_ble_eq_true rfl) rfl ?_
      refine g_iload_n dX9_shift_75 3 rfl ?_
      refine g_icmp_neN 92 dX9_shift_76 (by decide) (by omega) (by omega) (fun c76 => ?_) (fun c76 => ?_)
      · refine g_iload_n dX9_shift_92 0 rfl ?_
        refine g_top (show nI (x1M n (qF f) (qS f) d k (xM n (qF f) (qS f) d k)) = nI (xM n (qF f) (qS f) d (k + 1)) from congrArg nI (if_neg c76).symm) ?_
        refine g_istore_n (ls' := [(2, .int (nI (xM n (qF f) (qS f) d (k + 1)))), (3, .int (nI k)), (0, .ref 98), (1, .int (nI d))]) dX9_shift_93 (Nat.le_of_ble_eq_true rfl) rfl ?_
        refine g_iinc (q := 1) (v := nI (k + 1)) (ls' := [(3, .int (nI (k + 1))), (2, .int (nI (xM n (qF f) (qS f) d (k + 1)))), (0, .ref 98), (1, .int (nI d))]) dX9_shift_94 rfl (inc1 _) (Nat.le_of_ble_eq_true rfl) rfl ?_
        refine g_goto 4 dX9_shift_97 (by decide) ?_
        exact ih (k + 1) (by omega)
      · refine g_aload_n dX9_shift_79 2 rfl ?_
        refine g_getf dX9_shift_80 kX9 wfX9_13 (Nat.le_of_ble_eq_true rfl) (hO) rfl ?_
        refine g_iconst (v := nI 3) dX9_shift_83 (by decide +kernel) ?_
        refine g_iload_n dX9_shift_84 1 rfl ?_
        refine g_imulN dX9_shift_85 ?_
        refine g_iconst (v := nI 1) dX9_shift_86 (by decide +kernel) ?_
        refine g_iaddN dX9_shift_87 ?_
        refine g_ialI dX9_shift_88 (hP) (by omega) (by omega) ?_
        refine g_top (show (P1).getD ((3 * k) + 1) 0 = nI ((qS f).getD k 0) from e2) ?_
        refine g_goto 93 dX9_shift_89 (by decide) ?_
        refine g_top (show nI ((qS f).getD k 0) = nI (xM n (qF f) (qS f) d (k + 1)) from congrArg nI (if_pos c76).symm) ?_
        refine g_istore_n (ls' := [(2, .int (nI (xM n (qF f) (qS f) d (k + 1)))), (3, .int (nI k)), (0, .ref 98), (1, .int (nI d))]) dX9_shift_93 (Nat.le_of_ble_eq_true rfl) rfl ?_
        refine g_iinc (q := 1) (v := nI (k + 1)) (ls' := [(3, .int (nI (k + 1))), (2, .int (nI (xM n (qF f) (qS f) d (k + 1)))), (0, .ref 98), (1, .int (nI d))]) dX9_shift_94 rfl (inc1 _) (Nat.le_of_ble_eq_true rfl) rfl ?_
        refine g_goto 4 dX9_shift_97 (by decide) ?_
        exact ih (k + 1) (by omega)
    · refine g_aload_n dX9_shift_39 2 rfl ?_
      refine g_getf dX9_shift_40 kX9 wfX9_13 (Nat.le_of_ble_eq_true rfl) (hO) rfl ?_
      refine g_iconst (v := nI 3) dX9_shift_43 (by decide +kernel) ?_
      refine g_iload_n dX9_shift_44 0 rfl ?_
      refine g_imulN dX9_shift_45 ?_
      refine g_ialI dX9_shift_46 (hP) (by omega) (by omega) ?_
      refine g_top (show (P1).getD (3 * k) 0 = nI ((qF f).getD k 0) from e1) ?_
      refine g_goto 51 dX9_shift_47 (by decide) ?_
      refine g_top (show nI ((qF f).getD k 0) = nI (x1M n (qF f) (qS f) d k (xM n (qF f) (qS f) d k)) from congrArg nI (if_pos c36).symm) ?_
      refine g_istore_n (ls' := [(2, .int (nI (x1M n (qF f) (qS f) d k (xM n (qF f) (qS f) d k)))), (3, .int (nI k)), (0, .ref 98), (1, .int (nI d))]) dX9_shift_51 (Nat.le_of_ble_eq_true rfl) rfl ?_
      refine g_aload_n dX9_shift_52 2 rfl ?_
      refine g_aload_n dX9_shift_53 2 rfl ?_
      refine g_getf dX9_shift_54 kX9 wfX9_13 (Nat.le_of_ble_eq_true rfl) (hO) rfl ?_
      refine g_iconst (v := nI 3) dX9_shift_57 (by decide +kernel) ?_
      refine g_iload_n dX9_shift_58 1 rfl ?_
      refine g_imulN dX9_shift_59 ?_
      refine g_iconst (v := nI 1) dX9_shift_60 (by decide +kernel) ?_
      refine g_iaddN dX9_shift_61 ?_
      refine g_ialI dX9_shift_62 (hP) (by omega) (by omega) ?_
      refine g_top (show (P1).getD ((3 * k) + 1) 0 = nI ((qS f).getD k 0) from e2) ?_
      refine g_aload_n dX9_shift_63 2 rfl ?_
      refine g_getf dX9_shift_64 kX9 wfX9_13 (Nat.le_of_ble_eq_true rfl) (hO) rfl ?_
      refine g_iconst (v := nI 3) dX9_shift_67 (by decide +kernel) ?_
      refine g_iload_n dX9_shift_68 1 rfl ?_
      refine g_imulN dX9_shift_69 ?_
      refine g_ialI dX9_shift_70 (hP) (by omega) (by omega) ?_
      refine g_top (show (P1).getD (3 * k) 0 = nI ((qF f).getD k 0) from e1) ?_
      refine g_isub dX9_shift_71 ?_
      refine g_callVp dX9_shift_72 (ev_wholeR hO n3 ((qS f).getD k 0) ((qF f).getD k 0) b2 b1) oX9_whole wiX9_whole weX9_whole wmX9_129 kX9 (hO) rfl ⟨(Nat.le_of_ble_eq_true rfl), (Nat.le_of_ble_eq_true rfl)⟩ ⟨Nat.zero_le _, Nat.zero_le _⟩ (Nat.le_of_ble_eq_true rfl) rfl ?_
      refine g_iload_n dX9_shift_75 3 rfl ?_
      refine g_icmp_neN 92 dX9_shift_76 (by decide) (by omega) (by omega) (fun c76 => ?_) (fun c76 => ?_)
      · refine g_iload_n dX9_shift_92 0 rfl ?_
        refine g_top (show nI (x1M n (qF f) (qS f) d k (xM n (qF f) (qS f) d k)) = nI (xM n (qF f) (qS f) d (k + 1)) from congrArg nI (if_neg c76).symm) ?_
        refine g_istore_n (ls' := [(2, .int (nI (xM n (qF f) (qS f) d (k + 1)))), (3, .int (nI k)), (0, .ref 98), (1, .int (nI d))]) dX9_shift_93 (Nat.le_of_ble_eq_true rfl) rfl ?_
        refine g_iinc (q := 1) (v := nI (k + 1)) (ls' := [(3, .int (nI (k + 1))), (2, .int (nI (xM n (qF f) (qS f) d (k + 1)))), (0, .ref 98), (1, .int (nI d))]) dX9_shift_94 rfl (inc1 _) (Nat.le_of_ble_eq_true rfl) rfl ?_
        refine g_goto 4 dX9_shift_97 (by decide) ?_
        exact ih (k + 1) (by omega)
      · refine g_aload_n dX9_shift_79 2 rfl ?_
        refine g_getf dX9_shift_80 kX9 wfX9_13 (Nat.le_of_ble_eq_true rfl) (hO) rfl ?_
        refine g_iconst (v := nI 3) dX9_shift_83 (by decide +kernel) ?_
        refine g_iload_n dX9_shift_84 1 rfl ?_
        refine g_imulN dX9_shift_85 ?_
        refine g_iconst (v := nI 1) dX9_shift_86 (by decide +kernel) ?_
        refine g_iaddN dX9_shift_87 ?_
        refine g_ialI dX9_shift_88 (hP) (by omega) (by omega) ?_
        refine g_top (show (P1).getD ((3 * k) + 1) 0 = nI ((qS f).getD k 0) from e2) ?_
        refine g_goto 93 dX9_shift_89 (by decide) ?_
        refine g_top (show nI ((qS f).getD k 0) = nI (xM n (qF f) (qS f) d (k + 1)) from congrArg nI (if_pos c76).symm) ?_
        refine g_istore_n (ls' := [(2, .int (nI (xM n (qF f) (qS f) d (k + 1)))), (3, .int (nI k)), (0, .ref 98), (1, .int (nI d))]) dX9_shift_93 (Nat.le_of_ble_eq_true rfl) rfl ?_
        refine g_iinc (q := 1) (v := nI (k + 1)) (ls' := [(3, .int (nI (k + 1))), (2, .int (nI (xM n (qF f) (qS f) d (k + 1)))), (0, .ref 98), (1, .int (nI d))]) dX9_shift_94 rfl (inc1 _) (Nat.le_of_ble_eq_true rfl) rfl ?_
        refine g_goto 4 dX9_shift_97 (by decide) ?_
        exact ih (k + 1) (by omega)

set_option maxRecDepth 100000 in
set_option maxHeartbeats 4000000 in
theorem lp_msh2 {h : List aC} {P : Option Value → List aC → Prop} {n m a de : Nat} {fo as_ sm sk z : Int32} {am : Nat} {ib : Bool} {iN iM iT : Int32} (hO : MO h n m a de fo as_ sm sk z am ib iN iM iT) (n3 : n ≤ 13) (h0n : 0 < n) {d x b : Nat} (hd : d ≤ 6) (hbn : b < n) (hx : 2 * b % n = d) (hno : ∀ p, p < 13 → 1 ≤ p → p < b → ¬ 2 * p % n = d) (K : G mX9_shift (rmD 2 0 0) none P 0 0 120 [(3, .int (nI b)), (2, .int (nI x)), (0, .ref 98), (1, .int (nI d))] [] h) : ∀ j k , k + j = b → 1 ≤ k → G mX9_shift (rmD 2 0 0) none P 0 0 102 [(3, .int (nI k)), (2, .int (nI x)), (0, .ref 98), (1, .int (nI d))] [] h := by
  intro j
  induction j with
  | zero =>
    intro k  hk h1
    have hO : rd h 98 = some (.inr (9, [.int (nI n), .int (nI m), .ref 99, .ref 100, .ref 101, .int (nI a), .ref 102, .int (nI de), .ref 103, .ref 104, .ref 105, .int fo, .int as_, .int sm, .int sk, .ref 106, .ref 107, .ref 108, .int z, .ref 109, .ref 110, .ref 111, .int (nI am), .ref 112, .ref 113, .ref 114, .ref 115, .ref 116, .int (nI (bI ib)), .int iN, .int iM, .int iT, .ref 117, .ref 118, .ref 119])) := hO
    have hx2 : 2 * k % n = d := by rw [show k = b by omega]; exact hx
    have ml := Nat.mod_lt (2 * k) h0n
    refine g_iconst (v := nI 2) dX9_shift_102 (by decide +kernel) ?_
    refine g_iload_n dX9_shift_103 0 rfl ?_
    refine g_imulN dX9_shift_104 ?_
    refine g_aload_n dX9_shift_105 2 rfl ?_
    refine g_getf dX9_shift_106 kX9 wfX9_7 (Nat.le_of_ble_eq_true rfl) (hO) rfl ?_
    refine g_iremN dX9_shift_109 (by omega) (by omega) (by omega) ?_
    refine g_iload_n dX9_shift_110 3 rfl ?_
    refine g_icmp_eqN 120 dX9_shift_111 (by decide) (by omega) (by omega) (fun c111 => ?_) (fun z => absurd z (by omega))
    have ek : k = b := by omega
    subst ek
    exact K
  | succ j ih =>
    intro k  hk h1
    have hO : rd h 98 = some (.inr (9, [.int (nI n), .int (nI m), .ref 99, .ref 100, .ref 101, .int (nI a), .ref 102, .int (nI de), .ref 103, .ref 104, .ref 105, .int fo, .int as_, .int sm, .int sk, .ref 106, .ref 107, .ref 108, .int z, .ref 109, .ref 110, .ref 111, .int (nI am), .ref 112, .ref 113, .ref 114, .ref 115, .ref 116, .int (nI (bI ib)), .int iN, .int iM, .int iT, .ref 117, .ref 118, .ref 119])) := hO
    have ml := Nat.mod_lt (2 * k) h0n
    have nk := hno k (by omega) h1 (by omega)
    refine g_iconst (v := nI 2) dX9_shift_102 (by decide +kernel) ?_
    refine g_iload_n dX9_shift_103 0 rfl ?_
    refine g_imulN dX9_shift_104 ?_
    refine g_aload_n dX9_shift_105 2 rfl ?_
    refine g_getf dX9_shift_106 kX9 wfX9_7 (Nat.le_of_ble_eq_true rfl) (hO) rfl ?_
    refine g_iremN dX9_shift_109 (by omega) (by omega) (by omega) ?_
    refine g_iload_n dX9_shift_110 3 rfl ?_
    refine g_icmp_eqN 120 dX9_shift_111 (by decide) (by omega) (by omega) (fun z => absurd z (by omega)) (fun c111 => ?_)
    refine g_iinc (q := 0) (v := nI (k + 1)) (ls' := [(3, .int (nI (k + 1))), (2, .int (nI x)), (0, .ref 98), (1, .int (nI d))]) dX9_shift_114 rfl (inc1 _) (Nat.le_of_ble_eq_true rfl) rfl ?_
    refine g_goto 102 dX9_shift_117 (by decide) ?_
    exact ih (k + 1) (by omega) (by omega)

set_option maxRecDepth 100000 in
set_option maxHeartbeats 4000000 in
theorem ev_mshift {h : List aC} {σ : Sg} (H : RM h σ) (ok : okSg σ) (st : isSt σ.1.1 σ.1.2.1 (qF σ.1.2.2.1) (qS σ.1.2.2.1) = true) (d : Nat) (h1 : 1 ≤ d) (h2 : d ≤ (σ.1.1 - 1) / 2) : Ev mX9_shift 2 0 0 [.ref 98, .int (nI d)] h (pv (.int (nI (shF σ.1.1 σ.1.2.1 (qF σ.1.2.2.1) (qS σ.1.2.2.1) ((σ.1.1 - 1) / 2) (qF (fB σ.1.1)) (qS (fB σ.1.1)) d))) h) := by
  obtain ⟨fo, as_, sm, sk, z, iN, iM, iT, P, Ro, U, rf, WM, WP, WR, Tr, Ke, Co, Th, Be, Le, AP, AR, AU, Sz, It, IP, IR, IU, mO, mP, mRo, mU, mrf, mWM, mWP, mWR, mTr, mKe, mCo, mTh, mBe, mLe, mAP, mAR, mAU, mSz, mIt, mIP, mIR, mIU, vP, vR, vU, vF, vH, vL, vS, vI, vG⟩ := id H
  have mO : rd h 98 = some (.inr (9, [.int (nI σ.1.1), .int (nI σ.1.2.1), .ref 99, .ref 100, .ref 101, .int (nI σ.1.2.2.2.1), .ref 102, .int (nI ((σ.2.2.2.1).length)), .ref 103, .ref 104, .ref 105, .int fo, .int as_, .int sm, .int sk, .ref 106, .ref 107, .ref 108, .int z, .ref 109, .ref 110, .ref 111, .int (nI σ.2.1.1), .ref 112, .ref 113, .ref 114, .ref 115, .ref 116, .int (nI (bI σ.2.2.2.2.1.isSome)), .int iN, .int iM, .int iT, .ref 117, .ref 118, .ref 119])) := mO
  obtain ⟨mP, lP⟩ := mP
  obtain ⟨mRo, lRo⟩ := mRo
  obtain ⟨mU, lU⟩ := mU
  obtain ⟨mrf, lrf⟩ := mrf
  obtain ⟨mWM, lWM⟩ := mWM
  obtain ⟨mWP, lWP⟩ := mWP
  obtain ⟨mWR, lWR⟩ := mWR
  obtain ⟨mTr, lTr⟩ := mTr
  obtain ⟨mKe, lKe⟩ := mKe
  obtain ⟨mCo, lCo⟩ := mCo
  obtain ⟨mTh, lTh⟩ := mTh
  obtain ⟨mBe, lBe⟩ := mBe
  obtain ⟨mLe, lLe⟩ := mLe
  obtain ⟨mAP, lAP⟩ := mAP
  obtain ⟨mAR, lAR⟩ := mAR
  obtain ⟨mAU, lAU⟩ := mAU
  obtain ⟨mSz, lSz⟩ := mSz
  obtain ⟨mIt, lIt⟩ := mIt
  obtain ⟨mIP, lIP⟩ := mIP
  obtain ⟨mIR, lIR⟩ := mIR
  obtain ⟨mIU, lIU⟩ := mIU
  obtain ⟨okc, ⟨okl, okw⟩, okn, ⟨okh, oke⟩, oki, okr⟩ := id ok
  obtain ⟨k1, k2, k3, k4, k5, k6, k7, k8, k9⟩ := id okc
  have bq := bnd_q (n := σ.1.1) (m := σ.1.2.1) (by omega) k5
  have xl := xM_lt (d := d) (show 0 < σ.1.1 by omega) bq σ.1.2.1 (Nat.le_refl _)
  obtain ⟨pl1, pl2, pl3, pl4⟩ := pM_all σ.1.1 (by omega) k1 k3 d (by omega) h1 h2
  refine Ev.of pX9_shift (Nat.le_of_ble_eq_true rfl) ?_
  show G mX9_shift (rmD 2 0 0) none _ 0 0 0 [(0, .ref 98), (1, .int (nI d))] [] h
  refine g_iconst (v := nI 0) dX9_shift_0 (by decide +kernel) ?_
  refine g_istore_n (ls' := [(2, .int (nI 0)), (0, .ref 98), (1, .int (nI d))]) dX9_shift_1 (Nat.le_of_ble_eq_true rfl) rfl ?_
  refine g_iconst (v := nI 0) dX9_shift_2 (by decide +kernel) ?_
  refine g_istore_n (ls' := [(3, .int (nI 0)), (2, .int (nI 0)), (0, .ref 98), (1, .int (nI d))]) dX9_shift_3 (Nat.le_of_ble_eq_true rfl) rfl ?_
  refine lp_msh1 (show MO h _ _ _ _ _ _ _ _ _ _ _ _ _ _ from mO) k2 (by omega) mP lP vP k5 (by omega) ?_ σ.1.2.1 0 (by omega)
  refine g_iconst (v := nI 1) dX9_shift_100 (by decide +kernel) ?_
  refine g_istore_n (ls' := [(3, .int (nI 1)), (2, .int (nI (xM σ.1.1 (qF σ.1.2.2.1) (qS σ.1.2.2.1) d σ.1.2.1))), (0, .ref 98), (1, .int (nI d))]) dX9_shift_101 (Nat.le_of_ble_eq_true rfl) rfl ?_
  refine lp_msh2 (show MO h _ _ _ _ _ _ _ _ _ _ _ _ _ _ from mO) k2 (by omega) (by omega) pl2 pl3 pl4 ?_ (pM σ.1.1 d - 1) 1 (by omega) (by omega)
  refine g_aload_n dX9_shift_120 2 rfl ?_
  refine g_iload_n dX9_shift_121 1 rfl ?_
  refine g_iload_n dX9_shift_122 0 rfl ?_
  refine g_isub dX9_shift_123 ?_
  refine g_callVp dX9_shift_124 (ev_wholeR (show MO h _ _ _ _ _ _ _ _ _ _ _ _ _ _ from mO) k2 (xM σ.1.1 (qF σ.1.2.2.1) (qS σ.1.2.2.1) d σ.1.2.1) (pM σ.1.1 d) xl pl2) oX9_whole wiX9_whole weX9_whole wmX9_129 kX9 (mO) rfl ⟨(Nat.le_of_ble_eq_true rfl), (Nat.le_of_ble_eq_true rfl)⟩ ⟨Nat.zero_le _, Nat.zero_le _⟩ (Nat.le_of_ble_eq_true rfl) rfl ?_
  exact g_iret dX9_shift_127 rfl ⟨Nat.zero_le _, Nat.zero_le _⟩ (⟨by unfold shF; rw [pM_book σ.1.1 (by omega) k1 k3 d (by omega) h1 h2, ← xM_nAh bq k2 k1 k3 st h1 h2 σ.1.2.1 0 (by omega) rfl], rfl⟩)

set_option maxRecDepth 100000 in
set_option maxHeartbeats 4000000 in
theorem lp_mright {h : List aC} {σ : Sg} (H : RM h σ) (ok : okSg σ) (c34 : isSt σ.1.1 σ.1.2.1 (qF σ.1.2.2.1) (qS σ.1.2.2.1) = true) : ∀ j k, k + j = (σ.1.1 - 1) / 2 → G mX9_right (rmD 4 0 0) none (spM h (nI (bI (rtB σ.1.1 σ.1.2.1 (qF σ.1.2.2.1) (qS σ.1.2.2.1) ((σ.1.1 - 1) / 2) (qF (fB σ.1.1)) (qS (fB σ.1.1)))), σ)) 0 0 58 [(3, .int (nI (k + 1))), (2, .int (nI (shB σ.1.1 σ.1.2.1 (qF σ.1.2.2.1) (qS σ.1.2.2.1) ((σ.1.1 - 1) / 2) (qF (fB σ.1.1)) (qS (fB σ.1.1)) k))), (0, .ref 98), (1, .int (nI 0))] [] h := by
  obtain ⟨fo, as_, sm, sk, z, iN, iM, iT, P, Ro, U, rf, WM, WP, WR, Tr, Ke, Co, Th, Be, Le, AP, AR, AU, Sz, It, IP, IR, IU, mO, mP, mRo, mU, mrf, mWM, mWP, mWR, mTr, mKe, mCo, mTh, mBe, mLe, mAP, mAR, mAU, mSz, mIt, mIP, mIR, mIU, vP, vR, vU, vF, vH, vL, vS, vI, vG⟩ := id H
  have mO : rd h 98 = some (.inr (9, [.int (nI σ.1.1), .int (nI σ.1.2.1), .ref 99, .ref 100, .ref 101, .int (nI σ.1.2.2.2.1), .ref 102, .int (nI ((σ.2.2.2.1).length)), .ref 103, .ref 104, .ref 105, .int fo, .int as_, .int sm, .int sk, .ref 106, .ref 107, .ref 108, .int z, .ref 109, .ref 110, .ref 111, .int (nI σ.2.1.1), .ref 112, .ref 113, .ref 114, .ref 115, .ref 116, .int (nI (bI σ.2.2.2.2.1.isSome)), .int iN, .int iM, .int iT, .ref 117, .ref 118, .ref 119])) := mO
  obtain ⟨mP, lP⟩ := mP
  obtain ⟨mRo, lRo⟩ := mRo
  obtain ⟨mU, lU⟩ := mU
  obtain ⟨mrf, lrf⟩ := mrf
  obtain ⟨mWM, lWM⟩ := mWM
  obtain ⟨mWP, lWP⟩ := mWP
  obtain ⟨mWR, lWR⟩ := mWR
  obtain ⟨mTr, lTr⟩ := mTr
  obtain ⟨mKe, lKe⟩ := mKe
  obtain ⟨mCo, lCo⟩ := mCo
  obtain ⟨mTh, lTh⟩ := mTh
  obtain ⟨mBe, lBe⟩ := mBe
  obtain ⟨mLe, lLe⟩ := mLe
  obtain ⟨mAP, lAP⟩ := mAP
  obtain ⟨mAR, lAR⟩ := mAR
  obtain ⟨mAU, lAU⟩ := mAU
  obtain ⟨mSz, lSz⟩ := mSz
  obtain ⟨mIt, lIt⟩ := mIt
  obtain ⟨mIP, lIP⟩ := mIP
  obtain ⟨mIR, lIR⟩ := mIR
  obtain ⟨mIU, lIU⟩ := mIU
  obtain ⟨okc, ⟨okl, okw⟩, okn, ⟨okh, oke⟩, oki, okr⟩ := id ok
  obtain ⟨k1, k2, k3, k4, k5, k6, k7, k8, k9⟩ := id okc
  intro j
  induction j with
  | zero =>
    intro k hk
    have sl := shB_lt (m := σ.1.2.1) (F := qF σ.1.2.2.1) (S := qS σ.1.2.2.1) (m2 := (σ.1.1 - 1) / 2) (F2 := qF (fB σ.1.1)) (S2 := qS (fB σ.1.1)) (show 0 < σ.1.1 by omega) k2 k
    have ml : shF σ.1.1 σ.1.2.1 (qF σ.1.2.2.1) (qS σ.1.2.2.1) ((σ.1.1 - 1) / 2) (qF (fB σ.1.1)) (qS (fB σ.1.1)) (k + 1) < σ.1.1 := Nat.mod_lt _ (by omega)
    have ek : k = (σ.1.1 - 1) / 2 := by omega
    have pl := popN_le (shB σ.1.1 σ.1.2.1 (qF σ.1.2.2.1) (qS σ.1.2.2.1) ((σ.1.1 - 1) / 2) (qF (fB σ.1.1)) (qS (fB σ.1.1)) ((σ.1.1 - 1) / 2)) 14
    have ua : shB σ.1.1 σ.1.2.1 (qF σ.1.2.2.1) (qS σ.1.2.2.1) ((σ.1.1 - 1) / 2) (qF (fB σ.1.1)) (qS (fB σ.1.1)) ((σ.1.1 - 1) / 2) &&& 1 ≤ 1 := Nat.and_le_right
    rw [ek] at sl ml ⊢
    refine g_iload_n dX9_right_58 0 rfl ?_
    refine g_aload_n dX9_right_59 2 rfl ?_
    refine g_callVp dX9_right_60 (ev_half H ok) oX9_half wiX9_half weX9_half wmX9_113 kX9 (mO) rfl ⟨(Nat.le_of_ble_eq_true rfl), (Nat.le_of_ble_eq_true rfl)⟩ ⟨Nat.zero_le _, Nat.zero_le _⟩ (Nat.le_of_ble_eq_true rfl) rfl ?_
    refine g_icmp_gtN 82 dX9_right_63 (by decide) (by omega) (by omega) (fun c63 => ?_) (fun z => absurd z (by omega))
    refine g_iload_n dX9_right_82 1 rfl ?_
    refine g_callSp dX9_right_83 (ev_bitCount (shB σ.1.1 σ.1.2.1 (qF σ.1.2.2.1) (qS σ.1.2.2.1) ((σ.1.1 - 1) / 2) (qF (fB σ.1.1)) (qS (fB σ.1.1)) ((σ.1.1 - 1) / 2)) (by omega) _) oJ6_bitCount_0f7a4 wsJ6_bitCount_0f7a4 wmX9_149 rfl ⟨(Nat.le_of_ble_eq_true rfl), (Nat.le_of_ble_eq_true rfl)⟩ ⟨Nat.zero_le _, Nat.zero_le _⟩ (Nat.le_of_ble_eq_true rfl) rfl ?_
    refine g_aload_n dX9_right_86 2 rfl ?_
    refine g_callVp dX9_right_87 (ev_half H ok) oX9_half wiX9_half weX9_half wmX9_113 kX9 (mO) rfl ⟨(Nat.le_of_ble_eq_true rfl), (Nat.le_of_ble_eq_true rfl)⟩ ⟨Nat.zero_le _, Nat.zero_le _⟩ (Nat.le_of_ble_eq_true rfl) rfl ?_
    refine g_icmp_neN 103 dX9_right_90 (by decide) (by omega) (by omega) (fun c90 => ?_) (fun c90 => ?_)
    · refine g_iconst (v := nI 0) dX9_right_103 (by decide +kernel) ?_
      exact g_iret dX9_right_104 rfl ⟨Nat.zero_le _, Nat.zero_le _⟩ (⟨by rw [show rtB σ.1.1 σ.1.2.1 (qF σ.1.2.2.1) (qS σ.1.2.2.1) ((σ.1.1 - 1) / 2) (qF (fB σ.1.1)) (qS (fB σ.1.1)) = false from decide_eq_false (fun z => c90 z.2)]; rfl, ⟨_, _, _, _, _, _, _, _, _, _, _, _, _, _, _, _, _, _, _, _, _, _, _, _, _, _, _, _, _, mO, ⟨mP, lP⟩, ⟨mRo, lRo⟩, ⟨mU, lU⟩, ⟨mrf, lrf⟩, ⟨mWM, lWM⟩, ⟨mWP, lWP⟩, ⟨mWR, lWR⟩, ⟨mTr, lTr⟩, ⟨mKe, lKe⟩, ⟨mCo, lCo⟩, ⟨mTh, lTh⟩, ⟨mBe, lBe⟩, ⟨mLe, lLe⟩, ⟨mAP, lAP⟩, ⟨mAR, lAR⟩, ⟨mAU, lAU⟩, ⟨mSz, lSz⟩, ⟨mIt, lIt⟩, ⟨mIP, lIP⟩, ⟨mIR, lIR⟩, ⟨mIU, lIU⟩, vP, vR, vU, vF, vH, vL, vS, vI, vG⟩, Smo.rf⟩)
    · refine g_iload_n dX9_right_93 1 rfl ?_
      refine g_iconst (v := nI 1) dX9_right_94 (by decide +kernel) ?_
      refine g_iandN dX9_right_95 ?_
      refine g_if_neN 103 dX9_right_96 (by decide) (by omega) (fun c96 => ?_) (fun c96 => ?_)
      · refine g_iconst (v := nI 0) dX9_right_103 (by decide +kernel) ?_
        exact g_iret dX9_right_104 rfl ⟨Nat.zero_le _, Nat.zero_le _⟩ (⟨by rw [show rtB σ.1.1 σ.1.2.1 (qF σ.1.2.2.1) (qS σ.1.2.2.1) ((σ.1.1 - 1) / 2) (qF (fB σ.1.1)) (qS (fB σ.1.1)) = false from decide_eq_false (fun z => absurd z.1 (by omega))]; rfl, ⟨_, _, _, _, _, _, _, _, _, _, _, _, _, _, _, _, _, _, _, _, _, _, _, _, _, _, _, _, _, mO, ⟨mP, lP⟩, ⟨mRo, lRo⟩, ⟨mU, lU⟩, ⟨mrf, lrf⟩, ⟨mWM, lWM⟩, ⟨mWP, lWP⟩, ⟨mWR, lWR⟩, ⟨mTr, lTr⟩, ⟨mKe, lKe⟩, ⟨mCo, lCo⟩, ⟨mTh, lTh⟩, ⟨mBe, lBe⟩, ⟨mLe, lLe⟩, ⟨mAP, lAP⟩, ⟨mAR, lAR⟩, ⟨mAU, lAU⟩, ⟨mSz, lSz⟩, ⟨mIt, lIt⟩, ⟨mIP, lIP⟩, ⟨mIR, lIR⟩, ⟨mIU, lIU⟩, vP, vR, vU, vF, vH, vL, vS, vI, vG⟩, Smo.rf⟩)
      · refine g_iconst (v := nI 1) dX9_right_99 (by decide +kernel) ?_
        refine g_goto 104 dX9_right_100 (by decide) ?_
        exact g_iret dX9_right_104 rfl ⟨Nat.zero_le _, Nat.zero_le _⟩ (⟨by rw [show rtB σ.1.1 σ.1.2.1 (qF σ.1.2.2.1) (qS σ.1.2.2.1) ((σ.1.1 - 1) / 2) (qF (fB σ.1.1)) (qS (fB σ.1.1)) = true from decide_eq_true ⟨by omega, c90⟩]; rfl, ⟨_, _, _, _, _, _, _, _, _, _, _, _, _, _, _, _, _, _, _, _, _, _, _, _, _, _, _, _, _, mO, ⟨mP, lP⟩, ⟨mRo, lRo⟩, ⟨mU, lU⟩, ⟨mrf, lrf⟩, ⟨mWM, lWM⟩, ⟨mWP, lWP⟩, ⟨mWR, lWR⟩, ⟨mTr, lTr⟩, ⟨mKe, lKe⟩, ⟨mCo, lCo⟩, ⟨mTh, lTh⟩, ⟨mBe, lBe⟩, ⟨mLe, lLe⟩, ⟨mAP, lAP⟩, ⟨mAR, lAR⟩, ⟨mAU, lAU⟩, ⟨mSz, lSz⟩, ⟨mIt, lIt⟩, ⟨mIP, lIP⟩, ⟨mIR, lIR⟩, ⟨mIU, lIU⟩, vP, vR, vU, vF, vH, vL, vS, vI, vG⟩, Smo.rf⟩)
  | succ j ih =>
    intro k hk
    have sl := shB_lt (m := σ.1.2.1) (F := qF σ.1.2.2.1) (S := qS σ.1.2.2.1) (m2 := (σ.1.1 - 1) / 2) (F2 := qF (fB σ.1.1)) (S2 := qS (fB σ.1.1)) (show 0 < σ.1.1 by omega) k2 k
    have ml : shF σ.1.1 σ.1.2.1 (qF σ.1.2.2.1) (qS σ.1.2.2.1) ((σ.1.1 - 1) / 2) (qF (fB σ.1.1)) (qS (fB σ.1.1)) (k + 1) < σ.1.1 := Nat.mod_lt _ (by omega)
    refine g_iload_n dX9_right_58 0 rfl ?_
    refine g_aload_n dX9_right_59 2 rfl ?_
    refine g_callVp dX9_right_60 (ev_half H ok) oX9_half wiX9_half weX9_half wmX9_113 kX9 (mO) rfl ⟨(Nat.le_of_ble_eq_true rfl), (Nat.le_of_ble_eq_true rfl)⟩ ⟨Nat.zero_le _, Nat.zero_le _⟩ (Nat.le_of_ble_eq_true rfl) rfl ?_
    refine g_icmp_gtN 82 dX9_right_63 (by decide) (by omega) (by omega) (fun z => absurd z (by omega)) (fun c63 => ?_)
    refine g_iload_n dX9_right_66 1 rfl ?_
    refine g_iconst (v := nI 1) dX9_right_67 (by decide +kernel) ?_
    refine g_aload_n dX9_right_68 2 rfl ?_
    refine g_iload_n dX9_right_69 0 rfl ?_
    refine g_callVp dX9_right_70 (ev_mshift H ok c34 (k + 1) (by omega) (by omega)) oX9_shift wiX9_shift weX9_shift wmX9_191 kX9 (mO) rfl ⟨(Nat.le_of_ble_eq_true rfl), (Nat.le_of_ble_eq_true rfl)⟩ ⟨Nat.zero_le _, Nat.zero_le _⟩ (Nat.le_of_ble_eq_true rfl) rfl ?_
    refine g_ishl1 dX9_right_73 (by first | omega | exact Nat.lt_of_lt_of_le (Nat.mod_lt _ (by omega)) (by omega)) ?_
    refine g_iorN dX9_right_74 ?_
    refine g_istore_n (ls' := [(2, .int (nI ((shB σ.1.1 σ.1.2.1 (qF σ.1.2.2.1) (qS σ.1.2.2.1) ((σ.1.1 - 1) / 2) (qF (fB σ.1.1)) (qS (fB σ.1.1)) k) ||| (2 ^ (shF σ.1.1 σ.1.2.1 (qF σ.1.2.2.1) (qS σ.1.2.2.1) ((σ.1.1 - 1) / 2) (qF (fB σ.1.1)) (qS (fB σ.1.1)) (k + 1)))))), (3, .int (nI (k + 1))), (0, .ref 98), (1, .int (nI 0))]) dX9_right_75 (Nat.le_of_ble_eq_true rfl) rfl ?_
    refine g_iinc (q := 1) (v := nI (k + 1 + 1)) (ls' := [(3, .int (nI (k + 1 + 1))), (2, .int (nI ((shB σ.1.1 σ.1.2.1 (qF σ.1.2.2.1) (qS σ.1.2.2.1) ((σ.1.1 - 1) / 2) (qF (fB σ.1.1)) (qS (fB σ.1.1)) k) ||| (2 ^ (shF σ.1.1 σ.1.2.1 (qF σ.1.2.2.1) (qS σ.1.2.2.1) ((σ.1.1 - 1) / 2) (qF (fB σ.1.1)) (qS (fB σ.1.1)) (k + 1)))))), (0, .ref 98), (1, .int (nI 0))]) dX9_right_76 rfl (inc1 _) (Nat.le_of_ble_eq_true rfl) rfl ?_
    refine g_goto 58 dX9_right_79 (by decide) ?_
    exact ih (k + 1) (by omega)

set_option maxRecDepth 100000 in
set_option maxHeartbeats 4000000 in
theorem ev_y_right {h : List aC} {σ : Sg} (H : RM h σ) (ok : okSg σ) (x : Int32) : Ev mX9_right 4 0 0 [.ref 98, .int x] h (spM h (oRight σ x)) := by
  obtain ⟨fo, as_, sm, sk, z, iN, iM, iT, P, Ro, U, rf, WM, WP, WR, Tr, Ke, Co, Th, Be, Le, AP, AR, AU, Sz, It, IP, IR, IU, mO, mP, mRo, mU, mrf, mWM, mWP, mWR, mTr, mKe, mCo, mTh, mBe, mLe, mAP, mAR, mAU, mSz, mIt, mIP, mIR, mIU, vP, vR, vU, vF, vH, vL, vS, vI, vG⟩ := id H
  have mO : rd h 98 = some (.inr (9, [.int (nI σ.1.1), .int (nI σ.1.2.1), .ref 99, .ref 100, .ref 101, .int (nI σ.1.2.2.2.1), .ref 102, .int (nI ((σ.2.2.2.1).length)), .ref 103, .ref 104, .ref 105, .int fo, .int as_, .int sm, .int sk, .ref 106, .ref 107, .ref 108, .int z, .ref 109, .ref 110, .ref 111, .int (nI σ.2.1.1), .ref 112, .ref 113, .ref 114, .ref 115, .ref 116, .int (nI (bI σ.2.2.2.2.1.isSome)), .int iN, .int iM, .int iT, .ref 117, .ref 118, .ref 119])) := mO
  obtain ⟨mP, lP⟩ := mP
  obtain ⟨mRo, lRo⟩ := mRo
  obtain ⟨mU, lU⟩ := mU
  obtain ⟨mrf, lrf⟩ := mrf
  obtain ⟨mWM, lWM⟩ := mWM
  obtain ⟨mWP, lWP⟩ := mWP
  obtain ⟨mWR, lWR⟩ := mWR
  obtain ⟨mTr, lTr⟩ := mTr
  obtain ⟨mKe, lKe⟩ := mKe
  obtain ⟨mCo, lCo⟩ := mCo
  obtain ⟨mTh, lTh⟩ := mTh
  obtain ⟨mBe, lBe⟩ := mBe
  obtain ⟨mLe, lLe⟩ := mLe
  obtain ⟨mAP, lAP⟩ := mAP
  obtain ⟨mAR, lAR⟩ := mAR
  obtain ⟨mAU, lAU⟩ := mAU
  obtain ⟨mSz, lSz⟩ := mSz
  obtain ⟨mIt, lIt⟩ := mIt
  obtain ⟨mIP, lIP⟩ := mIP
  obtain ⟨mIR, lIR⟩ := mIR
  obtain ⟨mIU, lIU⟩ := mIU
  obtain ⟨okc, ⟨okl, okw⟩, okn, ⟨okh, oke⟩, oki, okr⟩ := id ok
  obtain ⟨k1, k2, k3, k4, k5, k6, k7, k8, k9⟩ := id okc
  refine Ev.of pX9_right (Nat.le_of_ble_eq_true rfl) ?_
  show G mX9_right (rmD 4 0 0) none _ 0 0 0 [(0, .ref 98), (1, .int x)] [] h
  refine g_iload_n dX9_right_0 1 rfl ?_
  refine g_i2l dX9_right_1 rfl ?_
  refine g_lconst (v := lN 0) dX9_right_2 rfl ?_
  refine g_aload_n dX9_right_3 0 rfl ?_
  refine g_callVp dX9_right_4 (ev_half H ok) oX9_half wiX9_half weX9_half wmX9_113 kX9 (mO) rfl ⟨(Nat.le_of_ble_eq_true rfl), (Nat.le_of_ble_eq_true rfl)⟩ ⟨Nat.zero_le _, Nat.zero_le _⟩ (Nat.le_of_ble_eq_true rfl) rfl ?_
  refine g_i2l (v := lN ((σ.1.1 - 1) / 2)) dX9_right_7 (nI_l (by omega)) ?_
  refine g_callSp dX9_right_8 (ev_inN x 0 ((σ.1.1 - 1) / 2) (by decide) (by omega) _) oX9_in wsX9_in wmX9_98 rfl ⟨(Nat.le_of_ble_eq_true rfl), (Nat.le_of_ble_eq_true rfl)⟩ ⟨Nat.zero_le _, Nat.zero_le _⟩ (Nat.le_of_ble_eq_true rfl) rfl ?_
  refine g_if_neB 30 dX9_right_11 (by decide) (fun c11 => ?_) (fun c11 => ?_)
  · have n1 := of_decide_eq_true c11
    rw [show oRight σ x = _ from (if_pos n1.1).trans (if_pos n1.2)]
    refine g_aload_n dX9_right_30 0 rfl ?_
    refine g_callVp dX9_right_31 (ev_isOne H ok) oX9_isOne wiX9_isOne weX9_isOne wmX9_145 kX9 (mO) rfl ⟨(Nat.le_of_ble_eq_true rfl), (Nat.le_of_ble_eq_true rfl)⟩ ⟨Nat.zero_le _, Nat.zero_le _⟩ (Nat.le_of_ble_eq_true rfl) rfl ?_
    refine g_if_neB 44 dX9_right_34 (by decide) (fun c34 => ?_) (fun c34 => ?_)
    · rw [if_pos c34]
      obtain ⟨x1, hx1, rfl⟩ := nn_of n1.1
      rw [cl_ hx1]
      have b1 := (nI_leI hx1 (by omega)).mp n1.2
      refine g_iload_n dX9_right_44 1 rfl ?_
      refine g_if_leN 54 dX9_right_45 (by decide) (by omega) (fun c45 => ?_) (fun c45 => ?_)
      · obtain rfl : x1 = 0 := c45
        rw [if_pos rfl]
        refine g_iconst (v := nI 0) dX9_right_54 (by decide +kernel) ?_
        refine g_istore_n (ls' := [(2, .int (nI 0)), (0, .ref 98), (1, .int (nI 0))]) dX9_right_55 (Nat.le_of_ble_eq_true rfl) rfl ?_
        refine g_iconst (v := nI 1) dX9_right_56 (by decide +kernel) ?_
        refine g_istore_n (ls' := [(3, .int (nI 1)), (2, .int (nI 0)), (0, .ref 98), (1, .int (nI 0))]) dX9_right_57 (Nat.le_of_ble_eq_true rfl) rfl ?_
        exact lp_mright H ok c34 ((σ.1.1 - 1) / 2) 0 (by omega)
      · rw [if_neg (show ¬ x1 = 0 by omega)]
        refine g_aload_n dX9_right_48 0 rfl ?_
        refine g_iload_n dX9_right_49 1 rfl ?_
        refine g_callVp dX9_right_50 (ev_mshift H ok c34 (x1) (by omega) (by omega)) oX9_shift wiX9_shift weX9_shift wmX9_191 kX9 (mO) rfl ⟨(Nat.le_of_ble_eq_true rfl), (Nat.le_of_ble_eq_true rfl)⟩ ⟨Nat.zero_le _, Nat.zero_le _⟩ (Nat.le_of_ble_eq_true rfl) rfl ?_
        exact g_iret dX9_right_53 rfl ⟨Nat.zero_le _, Nat.zero_le _⟩ (⟨rfl, ⟨_, _, _, _, _, _, _, _, _, _, _, _, _, _, _, _, _, _, _, _, _, _, _, _, _, _, _, _, _, mO, ⟨mP, lP⟩, ⟨mRo, lRo⟩, ⟨mU, lU⟩, ⟨mrf, lrf⟩, ⟨mWM, lWM⟩, ⟨mWP, lWP⟩, ⟨mWR, lWR⟩, ⟨mTr, lTr⟩, ⟨mKe, lKe⟩, ⟨mCo, lCo⟩, ⟨mTh, lTh⟩, ⟨mBe, lBe⟩, ⟨mLe, lLe⟩, ⟨mAP, lAP⟩, ⟨mAR, lAR⟩, ⟨mAU, lAU⟩, ⟨mSz, lSz⟩, ⟨mIt, lIt⟩, ⟨mIP, lIP⟩, ⟨mIR, lIR⟩, ⟨mIU, lIU⟩, vP, vR, vU, vF, vH, vL, vS, vI, vG⟩, Smo.rf⟩)
    · refine g_aload_n dX9_right_37 0 rfl ?_
      refine g_bipush (v := (-3)) dX9_right_38 (by decide +kernel) ?_
      rw [if_neg (by rw [c34]; decide)]
      refine g_callVq (st1 := [.int (-nI 3)]) dX9_right_40 (ev_refused H ok 3 (by unfold noN; omega)) oX9_refused wiX9_refused weX9_refused wmX9_90 kX9 (mO) rfl ⟨(Nat.le_of_ble_eq_true rfl), (Nat.le_of_ble_eq_true rfl)⟩ ⟨Nat.zero_le _, Nat.zero_le _⟩ (Nat.le_of_ble_eq_true rfl) rfl rfl (fun h1 q1 => ?_)
      exact g_iret dX9_right_43 rfl ⟨Nat.zero_le _, Nat.zero_le _⟩ (⟨rfl, q1⟩)
  · refine g_aload_n dX9_right_14 0 rfl ?_
    refine g_iload_n dX9_right_15 1 rfl ?_
    refine g_if_ge 24 dX9_right_16 (by decide) (fun c16 => ?_) (fun c16 => ?_)
    · refine g_bipush (v := (-6)) dX9_right_24 (by decide +kernel) ?_
      rw [show oRight σ x = rfS σ (-6) from (if_pos c16).trans (if_neg (fun z => of_decide_eq_false c11 ⟨c16, z⟩))]
      refine g_callVq (st1 := [.int (-nI 6)]) dX9_right_26 (ev_refused H ok 6 (by unfold noN; omega)) oX9_refused wiX9_refused weX9_refused wmX9_90 kX9 (mO) rfl ⟨(Nat.le_of_ble_eq_true rfl), (Nat.le_of_ble_eq_true rfl)⟩ ⟨Nat.zero_le _, Nat.zero_le _⟩ (Nat.le_of_ble_eq_true rfl) rfl rfl (fun h2 q2 => ?_)
      exact g_iret dX9_right_29 rfl ⟨Nat.zero_le _, Nat.zero_le _⟩ (⟨rfl, q2⟩)
    · refine g_bipush (v := (-4)) dX9_right_19 (by decide +kernel) ?_
      refine g_goto 26 dX9_right_21 (by decide) ?_
      rw [show oRight σ x = rfS σ (-4) from if_neg c16]
      refine g_callVq (st1 := [.int (-nI 4)]) dX9_right_26 (ev_refused H ok 4 (by unfold noN; omega)) oX9_refused wiX9_refused weX9_refused wmX9_90 kX9 (mO) rfl ⟨(Nat.le_of_ble_eq_true rfl), (Nat.le_of_ble_eq_true rfl)⟩ ⟨Nat.zero_le _, Nat.zero_le _⟩ (Nat.le_of_ble_eq_true rfl) rfl rfl (fun h3 q3 => ?_)
      exact g_iret dX9_right_29 rfl ⟨Nat.zero_le _, Nat.zero_le _⟩ (⟨rfl, q3⟩)
