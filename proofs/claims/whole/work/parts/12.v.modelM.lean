def smM (n : Nat) (F S : List Nat) (k : Nat) : Nat := (F.getD k 0 + S.getD k 0) % n
theorem smM_lt {n : Nat} {F S : List Nat} {k : Nat} (h0 : 0 < n) : smM n F S k < n := Nat.mod_lt _ h0
def unI (n : Nat) (sk : Bool) (F S : List Nat) (k : Nat) (b : Bool) : Nat → Bool
  | 0 => b
  | j + 1 => unI n sk F S k b j && (decide (smM n F S k ≠ smM n F S j) && (!sk || decide ((smM n F S k + smM n F S j) % n ≠ 0)))
def unM (n : Nat) (sk : Bool) (F S : List Nat) : Nat → Bool
  | 0 => true
  | k + 1 => unI n sk F S k (unM n sk F S k && decide (smM n F S k ≠ 0)) k
theorem unI_iff {n : Nat} {sk : Bool} {F S : List Nat} {k : Nat} {b : Bool} : ∀ j, unI n sk F S k b j = true ↔ (b = true ∧ ∀ i, i < j → smM n F S k ≠ smM n F S i ∧ (sk = true → (smM n F S k + smM n F S i) % n ≠ 0))
  | 0 => ⟨fun h => ⟨h, fun i hi => absurd hi (Nat.not_lt_zero i)⟩, fun h => h.1⟩
  | j + 1 => by
    show (unI n sk F S k b j && (decide (smM n F S k ≠ smM n F S j) && (!sk || decide ((smM n F S k + smM n F S j) % n ≠ 0)))) = true ↔ _
    rw [Bool.and_eq_true, Bool.and_eq_true, Bool.or_eq_true, unI_iff j, decide_eq_true_eq, decide_eq_true_eq]
    constructor
    · rintro ⟨⟨h1, h2⟩, h3, h4⟩
      refine ⟨h1, fun i hi => ?_⟩
      by_cases q : i = j
      · subst q
        refine ⟨h3, fun hs => ?_⟩
        rcases h4 with h4 | h4
        · rw [hs] at h4; exact absurd h4 (by decide)
        · exact h4
      · exact h2 i (by omega)
    · rintro ⟨h1, h2⟩
      refine ⟨⟨h1, fun i hi => h2 i (by omega)⟩, (h2 j (by omega)).1, ?_⟩
      cases sk
      · exact Or.inl rfl
      · exact Or.inr ((h2 j (by omega)).2 rfl)
theorem unM_iff {n : Nat} {sk : Bool} {F S : List Nat} : ∀ m, unM n sk F S m = true ↔ ∀ k, k < m → smM n F S k ≠ 0 ∧ ∀ i, i < k → smM n F S k ≠ smM n F S i ∧ (sk = true → (smM n F S k + smM n F S i) % n ≠ 0)
  | 0 => ⟨fun _ k hk => absurd hk (Nat.not_lt_zero k), fun _ => rfl⟩
  | m + 1 => by
    show unI n sk F S m (unM n sk F S m && decide (smM n F S m ≠ 0)) m = true ↔ _
    rw [unI_iff m, Bool.and_eq_true, unM_iff m, decide_eq_true_eq]
    constructor
    · rintro ⟨⟨h1, h2⟩, h3⟩ k hk
      by_cases q : k = m
      · subst q; exact ⟨h2, h3⟩
      · exact h1 k (by omega)
    · intro h
      exact ⟨⟨fun k hk => h k (by omega), (h m (by omega)).1⟩, (h m (by omega)).2⟩
theorem sB_bit {n : Nat} {F S : List Nat} {p : Nat} : ∀ k, (sBits n F S k).testBit p = true ↔ ∃ i, i < k ∧ smM n F S i = p
  | 0 => by
    rw [show sBits n F S 0 = 0 from rfl, Nat.zero_testBit]
    exact ⟨fun h => absurd h (by decide), fun ⟨i, hi, _⟩ => absurd hi (Nat.not_lt_zero i)⟩
  | k + 1 => by
    show (sBits n F S k ||| 2 ^ smM n F S k).testBit p = true ↔ _
    rw [Nat.testBit_or, Bool.or_eq_true, sB_bit k, Nat.testBit_two_pow, decide_eq_true_eq]
    constructor
    · rintro (⟨i, hi, e⟩ | e)
      · exact ⟨i, by omega, e⟩
      · exact ⟨k, by omega, e⟩
    · rintro ⟨i, hi, e⟩
      by_cases q : i = k
      · subst q; exact Or.inr e
      · exact Or.inl ⟨i, by omega, e⟩
theorem sum1 (b : Nat → Bool) (p : Nat) : ∀ k, sumN (fun i => bI (decide (p = i) && b i)) k = if p < k then bI (b p) else 0
  | 0 => by rw [if_neg (Nat.not_lt_zero p)]; rfl
  | k + 1 => by
    show sumN _ k + bI (decide (p = k) && b k) = _
    rw [sum1 b p k]
    by_cases q : p = k
    · subst q
      rw [if_neg (by omega), if_pos (by omega), decide_eq_true rfl, Bool.true_and, Nat.zero_add]
    · rw [decide_eq_false q, Bool.false_and]
      by_cases z : p < k
      · rw [if_pos z, if_pos (by omega)]; rfl
      · rw [if_neg z, if_neg (by omega)]; rfl
theorem pop_or {x p : Nat} (hp : p < 14) : popN (x ||| 2 ^ p) 14 = popN x 14 + bI (!x.testBit p) := by
  rw [popS, popS, sumN_ext (g := fun i => bI (x.testBit i) + bI (decide (p = i) && !x.testBit i)) 14 (fun i _ => by
    rw [Nat.testBit_or, Nat.testBit_two_pow]
    cases x.testBit i <;> cases decide (p = i) <;> rfl), sumN_add2, sum1 (fun i => !x.testBit i) p 14, if_pos hp]
theorem pop_le {n : Nat} {F S : List Nat} (h0 : 0 < n) (hn : n ≤ 13) : ∀ k, popN (sBits n F S k) 14 ≤ k
  | 0 => by show popN 0 14 ≤ 0; decide
  | k + 1 => by
    show popN (sBits n F S k ||| 2 ^ smM n F S k) 14 ≤ _
    rw [pop_or (p := smM n F S k) (by have := smM_lt (F := F) (S := S) (k := k) h0; omega)]
    have := pop_le (F := F) (S := S) h0 hn k
    have := bIle (!(sBits n F S k).testBit (smM n F S k))
    omega
theorem pop_iff {n : Nat} {F S : List Nat} (h0 : 0 < n) (hn : n ≤ 13) : ∀ k, popN (sBits n F S k) 14 = k ↔ ∀ i, i < k → ∀ j, j < i → smM n F S i ≠ smM n F S j
  | 0 => ⟨fun _ i hi => absurd hi (Nat.not_lt_zero i), fun _ => by show popN 0 14 = 0; decide⟩
  | k + 1 => by
    have hl := pop_le (F := F) (S := S) h0 hn k
    have ih := pop_iff (F := F) (S := S) h0 hn k
    show popN (sBits n F S k ||| 2 ^ smM n F S k) 14 = _ ↔ _
    rw [pop_or (p := smM n F S k) (by have := smM_lt (F := F) (S := S) (k := k) h0; omega)]
    by_cases t : (sBits n F S k).testBit (smM n F S k) = true
    · rw [t]
      obtain ⟨i, hi, e⟩ := (sB_bit k).mp t
      constructor
      · intro z; have z : popN (sBits n F S k) 14 + 0 = k + 1 := z; omega
      · intro z; exact absurd e.symm (z k (by omega) i hi)
    · have t2 : (sBits n F S k).testBit (smM n F S k) = false := by cases h : (sBits n F S k).testBit (smM n F S k) <;> first | rfl | exact absurd h t
      rw [t2]
      constructor
      · intro z
        have z : popN (sBits n F S k) 14 + 1 = k + 1 := z
        have w := ih.mp (by omega)
        intro i hi j hj
        by_cases q : i = k
        · subst q; exact fun e => t ((sB_bit i).mpr ⟨j, hj, e.symm⟩)
        · exact w i (by omega) j hj
      · intro z
        show popN (sBits n F S k) 14 + 1 = k + 1
        rw [ih.mpr (fun i hi => z i (by omega))]
theorem and1 (x : Nat) : x &&& 1 = 0 ↔ x.testBit 0 = false := by
  rw [Nat.and_one_is_mod, Nat.testBit_zero]
  by_cases q : x % 2 = 1
  · rw [decide_eq_true q]; exact ⟨fun z => by omega, fun z => absurd z (by decide)⟩
  · rw [decide_eq_false q]; exact ⟨fun _ => rfl, fun _ => by omega⟩
theorem andi (x i : Nat) : x / 2 ^ i &&& 1 = 0 ↔ x.testBit i = false := by
  rw [Nat.and_one_is_mod, Nat.testBit_eq_decide_div_mod_eq]
  by_cases q : x / 2 ^ i % 2 = 1
  · rw [decide_eq_true q]; exact ⟨fun z => by omega, fun z => absurd z (by decide)⟩
  · rw [decide_eq_false q]; exact ⟨fun _ => rfl, fun _ => by omega⟩
theorem stS_iff {n m : Nat} {F S : List Nat} (h0 : 0 < n) (hn : n ≤ 13) : stS n m F S = true ↔ (∀ k, k < m → smM n F S k ≠ 0) ∧ ∀ i, i < m → ∀ j, j < i → smM n F S i ≠ smM n F S j := by
  unfold stS
  rw [decide_eq_true_eq, pop_iff h0 hn, and1]
  constructor
  · rintro ⟨a, b⟩
    exact ⟨fun k hk e => by rw [(sB_bit m).mpr ⟨k, hk, e⟩] at a; exact absurd a (by decide), b⟩
  · rintro ⟨a, b⟩
    refine ⟨?_, b⟩
    cases h : (sBits n F S m).testBit 0
    · rfl
    · obtain ⟨i, hi, e⟩ := (sB_bit m).mp h
      exact absurd e (a i hi)
theorem skS_iff {n m : Nat} {F S : List Nat} : skS n m F S = true ↔ ∀ k, k < m → ∀ j, j < m → smM n F S j ≠ (n - smM n F S k) % n := by
  unfold skS
  rw [decide_eq_true_eq]
  constructor
  · intro h k hk j hj e
    have z : (sBits n F S m).testBit ((n - smM n F S k) % n) = false := (andi _ _).mp (h k hk)
    rw [(sB_bit m).mpr ⟨j, hj, e⟩] at z
    exact absurd z (by decide)
  · intro h k hk
    refine (andi _ _).mpr ?_
    cases z : (sBits n F S m).testBit ((n - (F.getD k 0 + S.getD k 0) % n) % n)
    · rfl
    · obtain ⟨j, hj, e⟩ := (sB_bit m).mp z
      exact absurd e (h k hk j hj)
theorem un_st {n m : Nat} {F S : List Nat} (h0 : 0 < n) (hn : n ≤ 13) : unM n false F S m = stS n m F S := by
  rw [Bool.eq_iff_iff, unM_iff, stS_iff h0 hn]
  constructor
  · intro h; exact ⟨fun k hk => (h k hk).1, fun i hi j hj => ((h i hi).2 j hj).1⟩
  · intro h k hk; exact ⟨h.1 k hk, fun i hi => ⟨h.2 k hk i hi, fun z => absurd z (by decide)⟩⟩
theorem two_mod {n a b : Nat} (ha : a < n) (hb : b < n) (ha0 : a ≠ 0) : (a + b) % n ≠ 0 ↔ b ≠ (n - a) % n := by
  rw [Nat.mod_eq_of_lt (show n - a < n by omega), modadd (x := a) (i := b) ha hb]
  split <;> omega
theorem un_sk {n m : Nat} {F S : List Nat} (h0 : 0 < n) (hn : n ≤ 13) (odd : n % 2 = 1) : unM n true F S m = (stS n m F S && skS n m F S) := by
  have lt : ∀ k, smM n F S k < n := fun k => Nat.mod_lt _ h0
  rw [Bool.eq_iff_iff, Bool.and_eq_true, unM_iff, stS_iff h0 hn, skS_iff]
  constructor
  · intro h
    refine ⟨⟨fun k hk => (h k hk).1, fun i hi j hj => ((h i hi).2 j hj).1⟩, fun k hk j hj => ?_⟩
    refine (two_mod (lt k) (lt j) (h k hk).1).mp ?_
    by_cases q : j = k
    · subst q
      have l := lt j
      have n0 := (h j hj).1
      rw [modadd l l]
      split <;> omega
    · by_cases q2 : j < k
      · exact ((h k hk).2 j q2).2 rfl
      · rw [Nat.add_comm]; exact ((h j hj).2 k (by omega)).2 rfl
  · rintro ⟨⟨h1, h2⟩, h3⟩ k hk
    exact ⟨h1 k hk, fun i hi => ⟨h2 k hk i hi, fun _ => (two_mod (lt k) (lt i) (h1 k hk)).mpr (h3 k hk i (by omega))⟩⟩
theorem bI_and1 (b : Bool) : bI b &&& 1 = bI b := by cases b <;> rfl
theorem bI_and0 (b : Bool) : bI b &&& 0 = 0 := by cases b <;> rfl

set_option maxRecDepth 100000 in
set_option maxHeartbeats 4000000 in
theorem ev_halfR {h : List aC} {n m a de : Nat} {fo as_ sm sk z : Int32} {am : Nat} {ib : Bool} {iN iM iT : Int32} (hO : MO h n m a de fo as_ sm sk z am ib iN iM iT) (h3 : 3 ≤ n) (n3 : n ≤ 13) : Ev mX9_half 1 0 0 [.ref 98] h (pv (.int (nI ((n - 1) / 2))) h) := by
  have hO : rd h 98 = some (.inr (9, [.int (nI n), .int (nI m), .ref 99, .ref 100, .ref 101, .int (nI a), .ref 102, .int (nI de), .ref 103, .ref 104, .ref 105, .int fo, .int as_, .int sm, .int sk, .ref 106, .ref 107, .ref 108, .int z, .ref 109, .ref 110, .ref 111, .int (nI am), .ref 112, .ref 113, .ref 114, .ref 115, .ref 116, .int (nI (bI ib)), .int iN, .int iM, .int iT, .ref 117, .ref 118, .ref 119])) := hO
  refine Ev.of pX9_half (Nat.le_of_ble_eq_true rfl) ?_
  show G mX9_half (rmD 1 0 0) none _ 0 0 0 [(0, .ref 98)] [] h
  refine g_aload_n dX9_half_0 0 rfl ?_
  refine g_getf dX9_half_1 kX9 wfX9_7 (Nat.le_of_ble_eq_true rfl) (hO) rfl ?_
  refine g_iconst (v := nI 1) dX9_half_4 (by decide +kernel) ?_
  refine g_isubN dX9_half_5 (by omega) ?_
  refine g_iconst (v := nI 2) dX9_half_6 (by decide +kernel) ?_
  refine g_idivN dX9_half_7 (by omega) (by omega) (by omega) ?_
  exact g_iret dX9_half_8 rfl ⟨Nat.zero_le _, Nat.zero_le _⟩ (⟨rfl, rfl⟩)

theorem un_t {a b : Bool} (h : b = true) : bI a &&& 1 = bI (a && b) := by rw [h, Bool.and_true, bI_and1]
theorem un_f {a b : Bool} (h : b = false) : bI a &&& 0 = bI (a && b) := by rw [h, Bool.and_false, bI_and0]; rfl

set_option maxRecDepth 100000 in
set_option maxHeartbeats 4000000 in
theorem lp_unI {h : List aC} {P : Option Value → List aC → Prop} {n m a de : Nat} {fo as_ sm sk z : Int32} {am : Nat} {ib : Bool} {iN iM iT : Int32} (hO : MO h n m a de fo as_ sm sk z am ib iN iM iT) (h3 : 3 ≤ n) (n3 : n ≤ 13) {q s : Nat} {R : List Int32} (hR : rd h q = some (.inl R)) (hs : s ≤ 3) (lR : R.length ≤ 400) (hl : ∀ k, k < (n - 1) / 2 → s * k + 1 < R.length) {F S : List Nat} (hF : ∀ k, k < (n - 1) / 2 → R.getD (s * k) 0 = nI (F.getD k 0) ∧ R.getD (s * k + 1) 0 = nI (S.getD k 0) ∧ F.getD k 0 < n ∧ S.getD k 0 < n) {wk : Bool} (i : Nat) (hi : i < (n - 1) / 2) (b : Bool) (K : G mX9_areUnlike (rmD 2 0 0) none P 0 0 124 [(7, .int (nI i)), (0, .ref 98), (1, .ref q), (2, .int (nI s)), (3, .int (nI (bI wk))), (4, .int (nI (bI (unI n wk F S i b i)))), (5, .int (nI i)), (6, .int (nI (smM n F S i)))] [] h) : ∀ j k , k + j = i → G mX9_areUnlike (rmD 2 0 0) none P 0 0 55 [(7, .int (nI k)), (0, .ref 98), (1, .ref q), (2, .int (nI s)), (3, .int (nI (bI wk))), (4, .int (nI (bI (unI n wk F S i b k)))), (5, .int (nI i)), (6, .int (nI (smM n F S i)))] [] h := by
  intro j
  induction j with
  | zero =>
    intro k  hk 
    have hO : rd h 98 = some (.inr (9, [.int (nI n), .int (nI m), .ref 99, .ref 100, .ref 101, .int (nI a), .ref 102, .int (nI de), .ref 103, .ref 104, .ref 105, .int fo, .int as_, .int sm, .int sk, .ref 106, .ref 107, .ref 108, .int z, .ref 109, .ref 110, .ref 111, .int (nI am), .ref 112, .ref 113, .ref 114, .ref 115, .ref 116, .int (nI (bI ib)), .int iN, .int iM, .int iT, .ref 117, .ref 118, .ref 119])) := hO
    have mi : smM n F S i < n := Nat.mod_lt _ (by omega)
    refine g_iload dX9_areUnlike_55 0 rfl ?_
    refine g_iload dX9_areUnlike_57 6 rfl ?_
    refine g_icmp_geN 124 dX9_areUnlike_59 (by decide) (by omega) (by omega) (fun c59 => ?_) (fun z => absurd z (by omega))
    have ek : k = i := by omega
    subst ek
    exact K
  | succ j ih =>
    intro k  hk 
    have hO : rd h 98 = some (.inr (9, [.int (nI n), .int (nI m), .ref 99, .ref 100, .ref 101, .int (nI a), .ref 102, .int (nI de), .ref 103, .ref 104, .ref 105, .int fo, .int as_, .int sm, .int sk, .ref 106, .ref 107, .ref 108, .int z, .ref 109, .ref 110, .ref 111, .int (nI am), .ref 112, .ref 113, .ref 114, .ref 115, .ref 116, .int (nI (bI ib)), .int iN, .int iM, .int iT, .ref 117, .ref 118, .ref 119])) := hO
    have mi : smM n F S i < n := Nat.mod_lt _ (by omega)
    obtain ⟨ek1, ek2, ek3, ek4⟩ := hF k (by omega)
    have lk := hl k (by omega)
    have mk : smM n F S k < n := Nat.mod_lt _ (by omega)
    have mik : (smM n F S i + smM n F S k) % n < n := Nat.mod_lt _ (by omega)
    refine g_iload dX9_areUnlike_55 0 rfl ?_
    refine g_iload dX9_areUnlike_57 6 rfl ?_
    refine g_icmp_geN 124 dX9_areUnlike_59 (by decide) (by omega) (by omega) (fun z => absurd z (by omega)) (fun c59 => ?_)
    refine g_aload_n dX9_areUnlike_62 2 rfl ?_
    refine g_iload_n dX9_areUnlike_63 3 rfl ?_
    refine g_iload dX9_areUnlike_64 0 rfl ?_
    refine g_imulN dX9_areUnlike_66 ?_
    refine g_ialI dX9_areUnlike_67 (hR) (by omega) (by omega) ?_
    refine g_top (ek1) ?_
    refine g_aload_n dX9_areUnlike_68 2 rfl ?_
    refine g_iload_n dX9_areUnlike_69 3 rfl ?_
    refine g_iload dX9_areUnlike_70 0 rfl ?_
    refine g_imulN dX9_areUnlike_72 ?_
    refine g_iconst (v := nI 1) dX9_areUnlike_73 (by decide +kernel) ?_
    refine g_iaddN dX9_areUnlike_74 ?_
    refine g_ialI dX9_areUnlike_75 (hR) (by omega) (by omega) ?_
    refine g_top (ek2) ?_
    refine g_iaddN dX9_areUnlike_76 ?_
    refine g_aload_n dX9_areUnlike_77 1 rfl ?_
    refine g_getf dX9_areUnlike_78 kX9 wfX9_7 (Nat.le_of_ble_eq_true rfl) (hO) rfl ?_
    refine g_iremN dX9_areUnlike_81 (by omega) (by omega) (by omega) ?_
    refine g_top (show nI (((F.getD k 0) + (S.getD k 0)) % n) = nI (smM n F S k) from rfl) ?_
    refine g_istore (ls' := [(8, .int (nI (smM n F S k))), (7, .int (nI k)), (0, .ref 98), (1, .ref q), (2, .int (nI s)), (3, .int (nI (bI wk))), (4, .int (nI (bI (unI n wk F S i b k)))), (5, .int (nI i)), (6, .int (nI (smM n F S i)))]) dX9_areUnlike_82 (Nat.le_of_ble_eq_true rfl) rfl ?_
    refine g_iload dX9_areUnlike_84 6 rfl ?_
    refine g_iload dX9_areUnlike_86 8 rfl ?_
    refine g_iload dX9_areUnlike_88 0 rfl ?_
    refine g_icmp_eqN 114 dX9_areUnlike_90 (by decide) (by omega) (by omega) (fun c90 => ?_) (fun c90 => ?_)
    · refine g_iconst (v := nI 0) dX9_areUnlike_114 (by decide +kernel) ?_
      refine g_iandN dX9_areUnlike_115 ?_
      refine g_top (show nI ((bI (unI n wk F S i b k)) &&& 0) = nI (bI (unI n wk F S i b (k + 1))) from congrArg nI (un_f (by rw [decide_eq_false (not_not_intro c90), Bool.false_and]))) ?_
      refine g_istore (ls' := [(4, .int (nI (bI (unI n wk F S i b (k + 1))))), (8, .int (nI (smM n F S k))), (7, .int (nI k)), (0, .ref 98), (1, .ref q), (2, .int (nI s)), (3, .int (nI (bI wk))), (5, .int (nI i)), (6, .int (nI (smM n F S i)))]) dX9_areUnlike_116 (Nat.le_of_ble_eq_true rfl) rfl ?_
      refine g_iinc (q := 2) (v := nI (k + 1)) (ls' := [(7, .int (nI (k + 1))), (4, .int (nI (bI (unI n wk F S i b (k + 1))))), (8, .int (nI (smM n F S k))), (0, .ref 98), (1, .ref q), (2, .int (nI s)), (3, .int (nI (bI wk))), (5, .int (nI i)), (6, .int (nI (smM n F S i)))]) dX9_areUnlike_118 rfl (inc1 _) (Nat.le_of_ble_eq_true rfl) rfl ?_
      refine g_goto 55 dX9_areUnlike_121 (by decide) ?_
      refine g_lsub_ (ls2 := [(7, .int (nI (k + 1))), (0, .ref 98), (1, .ref q), (2, .int (nI s)), (3, .int (nI (bI wk))), (4, .int (nI (bI (unI n wk F S i b (k + 1))))), (5, .int (nI i)), (6, .int (nI (smM n F S i)))]) [0, 3, 4, 5, 6, 1, 7, 8] rfl ?_
      exact ih (k + 1) (by omega)
    · refine g_iload_n dX9_areUnlike_93 5 rfl ?_
      refine g_if_eqB 110 dX9_areUnlike_94 (by decide) (fun c94 => ?_) (fun c94 => ?_)
      · refine g_iconst (v := nI 1) dX9_areUnlike_110 (by decide +kernel) ?_
        refine g_goto 115 dX9_areUnlike_111 (by decide) ?_
        refine g_iandN dX9_areUnlike_115 ?_
        refine g_top (show nI ((bI (unI n wk F S i b k)) &&& 1) = nI (bI (unI n wk F S i b (k + 1))) from congrArg nI (un_t (by rw [decide_eq_true c90, c94, Bool.not_false, Bool.true_or, Bool.and_true]))) ?_
        refine g_istore (ls' := [(4, .int (nI (bI (unI n wk F S i b (k + 1))))), (8, .int (nI (smM n F S k))), (7, .int (nI k)), (0, .ref 98), (1, .ref q), (2, .int (nI s)), (3, .int (nI (bI wk))), (5, .int (nI i)), (6, .int (nI (smM n F S i)))]) dX9_areUnlike_116 (Nat.le_of_ble_eq_true rfl) rfl ?_
        refine g_iinc (q := 2) (v := nI (k + 1)) (ls' := [(7, .int (nI (k + 1))), (4, .int (nI (bI (unI n wk F S i b (k + 1))))), (8, .int (nI (smM n F S k))), (0, .ref 98), (1, .ref q), (2, .int (nI s)), (3, .int (nI (bI wk))), (5, .int (nI i)), (6, .int (nI (smM n F S i)))]) dX9_areUnlike_118 rfl (inc1 _) (Nat.le_of_ble_eq_true rfl) rfl ?_
        refine g_goto 55 dX9_areUnlike_121 (by decide) ?_
        refine g_lsub_ (ls2 := [(7, .int (nI (k + 1))), (0, .ref 98), (1, .ref q), (2, .int (nI s)), (3, .int (nI (bI wk))), (4, .int (nI (bI (unI n wk F S i b (k + 1))))), (5, .int (nI i)), (6, .int (nI (smM n F S i)))]) [0, 3, 4, 5, 6, 1, 7, 8] rfl ?_
        exact ih (k + 1) (by omega)
      · refine g_iload dX9_areUnlike_97 8 rfl ?_
        refine g_iload dX9_areUnlike_99 0 rfl ?_
        refine g_iaddN dX9_areUnlike_101 ?_
        refine g_aload_n dX9_areUnlike_102 2 rfl ?_
        refine g_getf dX9_areUnlike_103 kX9 wfX9_7 (Nat.le_of_ble_eq_true rfl) (hO) rfl ?_
        refine g_iremN dX9_areUnlike_106 (by omega) (by omega) (by omega) ?_
        refine g_if_eqN 114 dX9_areUnlike_107 (by decide) (by omega) (fun c107 => ?_) (fun c107 => ?_)
        · refine g_iconst (v := nI 0) dX9_areUnlike_114 (by decide +kernel) ?_
          refine g_iandN dX9_areUnlike_115 ?_
          refine g_top (show nI ((bI (unI n wk F S i b k)) &&& 0) = nI (bI (unI n wk F S i b (k + 1))) from congrArg nI (un_f (by rw [decide_eq_true c90, c94, decide_eq_false (not_not_intro c107), Bool.or_false, Bool.true_and, Bool.not_true]))) ?_
          refine g_istore (ls' := [(4, .int (nI (bI (unI n wk F S i b (k + 1))))), (8, .int (nI (smM n F S k))), (7, .int (nI k)), (0, .ref 98), (1, .ref q), (2, .int (nI s)), (3, .int (nI (bI wk))), (5, .int (nI i)), (6, .int (nI (smM n F S i)))]) dX9_areUnlike_116 (Nat.le_of_ble_eq_true rfl) rfl ?_
          refine g_iinc (q := 2) (v := nI (k + 1)) (ls' := [(7, .int (nI (k + 1))), (4, .int (nI (bI (unI n wk F S i b (k + 1))))), (8, .int (nI (smM n F S k))), (0, .ref 98), (1, .ref q), (2, .int (nI s)), (3, .int (nI (bI wk))), (5, .int (nI i)), (6, .int (nI (smM n F S i)))]) dX9_areUnlike_118 rfl (inc1 _) (Nat.le_of_ble_eq_true rfl) rfl ?_
          refine g_goto 55 dX9_areUnlike_121 (by decide) ?_
          refine g_lsub_ (ls2 := [(7, .int (nI (k + 1))), (0, .ref 98), (1, .ref q), (2, .int (nI s)), (3, .int (nI (bI wk))), (4, .int (nI (bI (unI n wk F S i b (k + 1))))), (5, .int (nI i)), (6, .int (nI (smM n F S i)))]) [0, 3, 4, 5, 6, 1, 7, 8] rfl ?_
          exact ih (k + 1) (by omega)
        · refine g_iconst (v := nI 1) dX9_areUnlike_110 (by decide +kernel) ?_
          refine g_goto 115 dX9_areUnlike_111 (by decide) ?_
          refine g_iandN dX9_areUnlike_115 ?_
          refine g_top (show nI ((bI (unI n wk F S i b k)) &&& 1) = nI (bI (unI n wk F S i b (k + 1))) from congrArg nI (un_t (by rw [decide_eq_true c90, decide_eq_true (show (smM n F S i + smM n F S k) % n ≠ 0 from by omega), Bool.or_true, Bool.true_and]))) ?_
          refine g_istore (ls' := [(4, .int (nI (bI (unI n wk F S i b (k + 1))))), (8, .int (nI (smM n F S k))), (7, .int (nI k)), (0, .ref 98), (1, .ref q), (2, .int (nI s)), (3, .int (nI (bI wk))), (5, .int (nI i)), (6, .int (nI (smM n F S i)))]) dX9_areUnlike_116 (Nat.le_of_ble_eq_true rfl) rfl ?_
          refine g_iinc (q := 2) (v := nI (k + 1)) (ls' := [(7, .int (nI (k + 1))), (4, .int (nI (bI (unI n wk F S i b (k + 1))))), (8, .int (nI (smM n F S k))), (0, .ref 98), (1, .ref q), (2, .int (nI s)), (3, .int (nI (bI wk))), (5, .int (nI i)), (6, .int (nI (smM n F S i)))]) dX9_areUnlike_118 rfl (inc1 _) (Nat.le_of_ble_eq_true rfl) rfl ?_
          refine g_goto 55 dX9_areUnlike_121 (by decide) ?_
          refine g_lsub_ (ls2 := [(7, .int (nI (k + 1))), (0, .ref 98), (1, .ref q), (2, .int (nI s)), (3, .int (nI (bI wk))), (4, .int (nI (bI (unI n wk F S i b (k + 1))))), (5, .int (nI i)), (6, .int (nI (smM n F S i)))]) [0, 3, 4, 5, 6, 1, 7, 8] rfl ?_
          exact ih (k + 1) (by omega)

set_option maxRecDepth 100000 in
set_option maxHeartbeats 4000000 in
theorem lp_unO {h : List aC} {n m a de : Nat} {fo as_ sm sk z : Int32} {am : Nat} {ib : Bool} {iN iM iT : Int32} (hO : MO h n m a de fo as_ sm sk z am ib iN iM iT) (h3 : 3 ≤ n) (n3 : n ≤ 13) {q s : Nat} {R : List Int32} (hR : rd h q = some (.inl R)) (hs : s ≤ 3) (lR : R.length ≤ 400) (hl : ∀ k, k < (n - 1) / 2 → s * k + 1 < R.length) {F S : List Nat} (hF : ∀ k, k < (n - 1) / 2 → R.getD (s * k) 0 = nI (F.getD k 0) ∧ R.getD (s * k + 1) 0 = nI (S.getD k 0) ∧ F.getD k 0 < n ∧ S.getD k 0 < n) {wk : Bool} : ∀ j k , k + j = (n - 1) / 2 → G mX9_areUnlike (rmD 2 0 0) none (pv (.int (nI (bI (unM n wk F S ((n - 1) / 2))))) h) 0 0 6 [(5, .int (nI k)), (0, .ref 98), (1, .ref q), (2, .int (nI s)), (3, .int (nI (bI wk))), (4, .int (nI (bI (unM n wk F S k))))] [] h := by
  intro j
  induction j with
  | zero =>
    intro k  hk 
    have hO : rd h 98 = some (.inr (9, [.int (nI n), .int (nI m), .ref 99, .ref 100, .ref 101, .int (nI a), .ref 102, .int (nI de), .ref 103, .ref 104, .ref 105, .int fo, .int as_, .int sm, .int sk, .ref 106, .ref 107, .ref 108, .int z, .ref 109, .ref 110, .ref 111, .int (nI am), .ref 112, .ref 113, .ref 114, .ref 115, .ref 116, .int (nI (bI ib)), .int iN, .int iM, .int iT, .ref 117, .ref 118, .ref 119])) := hO
    refine g_iload dX9_areUnlike_6 0 rfl ?_
    refine g_aload_n dX9_areUnlike_8 1 rfl ?_
    refine g_callVp dX9_areUnlike_9 (ev_halfR hO h3 n3) oX9_half wiX9_half weX9_half wmX9_113 kX9 (hO) rfl ⟨(Nat.le_of_ble_eq_true rfl), (Nat.le_of_ble_eq_true rfl)⟩ ⟨Nat.zero_le _, Nat.zero_le _⟩ (Nat.le_of_ble_eq_true rfl) rfl ?_
    refine g_icmp_geN 130 dX9_areUnlike_12 (by decide) (by omega) (by omega) (fun c12 => ?_) (fun z => absurd z (by omega))
    refine g_iload dX9_areUnlike_130 5 rfl ?_
    exact g_zret dX9_areUnlike_132 rfl (narB _) ⟨Nat.zero_le _, Nat.zero_le _⟩ (⟨by rw [show (n - 1) / 2 = k by omega], rfl⟩)
  | succ j ih =>
    intro k  hk 
    have hO : rd h 98 = some (.inr (9, [.int (nI n), .int (nI m), .ref 99, .ref 100, .ref 101, .int (nI a), .ref 102, .int (nI de), .ref 103, .ref 104, .ref 105, .int fo, .int as_, .int sm, .int sk, .ref 106, .ref 107, .ref 108, .int z, .ref 109, .ref 110, .ref 111, .int (nI am), .ref 112, .ref 113, .ref 114, .ref 115, .ref 116, .int (nI (bI ib)), .int iN, .int iM, .int iT, .ref 117, .ref 118, .ref 119])) := hO
    obtain ⟨ek1, ek2, ek3, ek4⟩ := hF k (by omega)
    have lk := hl k (by omega)
    have mk : smM n F S k < n := Nat.mod_lt _ (by omega)
    refine g_iload dX9_areUnlike_6 0 rfl ?_
    refine g_aload_n dX9_areUnlike_8 1 rfl ?_
    refine g_callVp dX9_areUnlike_9 (ev_halfR hO h3 n3) oX9_half wiX9_half weX9_half wmX9_113 kX9 (hO) rfl ⟨(Nat.le_of_ble_eq_true rfl), (Nat.le_of_ble_eq_true rfl)⟩ ⟨Nat.zero_le _, Nat.zero_le _⟩ (Nat.le_of_ble_eq_true rfl) rfl ?_
    refine g_icmp_geN 130 dX9_areUnlike_12 (by decide) (by omega) (by omega) (fun z => absurd z (by omega)) (fun c12 => ?_)
    refine g_aload_n dX9_areUnlike_15 2 rfl ?_
    refine g_iload_n dX9_areUnlike_16 3 rfl ?_
    refine g_iload dX9_areUnlike_17 0 rfl ?_
    refine g_imulN dX9_areUnlike_19 ?_
    refine g_ialI dX9_areUnlike_20 (hR) (by omega) (by omega) ?_
    refine g_top (ek1) ?_
    refine g_aload_n dX9_areUnlike_21 2 rfl ?_
    refine g_iload_n dX9_areUnlike_22 3 rfl ?_
    refine g_iload dX9_areUnlike_23 0 rfl ?_
    refine g_imulN dX9_areUnlike_25 ?_
    refine g_iconst (v := nI 1) dX9_areUnlike_26 (by decide +kernel) ?_
    refine g_iaddN dX9_areUnlike_27 ?_
    refine g_ialI dX9_areUnlike_28 (hR) (by omega) (by omega) ?_
    refine g_top (ek2) ?_
    refine g_iaddN dX9_areUnlike_29 ?_
    refine g_aload_n dX9_areUnlike_30 1 rfl ?_
    refine g_getf dX9_areUnlike_31 kX9 wfX9_7 (Nat.le_of_ble_eq_true rfl) (hO) rfl ?_
    refine g_iremN dX9_areUnlike_34 (by omega) (by omega) (by omega) ?_
    refine g_top (show nI (((F.getD k 0) + (S.getD k 0)) % n) = nI (smM n F S k) from rfl) ?_
    refine g_istore (ls' := [(6, .int (nI (smM n F S k))), (5, .int (nI k)), (0, .ref 98), (1, .ref q), (2, .int (nI s)), (3, .int (nI (bI wk))), (4, .int (nI (bI (unM n wk F S k))))]) dX9_areUnlike_35 (Nat.le_of_ble_eq_true rfl) rfl ?_
    refine g_iload dX9_areUnlike_37 6 rfl ?_
    refine g_iload dX9_areUnlike_39 0 rfl ?_
    refine g_if_eqN 48 dX9_areUnlike_41 (by decide) (by omega) (fun c41 => ?_) (fun c41 => ?_)
    · refine g_iconst (v := nI 0) dX9_areUnlike_48 (by decide +kernel) ?_
      refine g_iandN dX9_areUnlike_49 ?_
      refine g_top (show nI ((bI (unM n wk F S k)) &&& 0) = nI (bI (unI n wk F S k (unM n wk F S k && decide (smM n F S k ≠ 0)) 0)) from congrArg nI (un_f (decide_eq_false (not_not_intro c41)))) ?_
      refine g_istore (ls' := [(4, .int (nI (bI (unI n wk F S k (unM n wk F S k && decide (smM n F S k ≠ 0)) 0)))), (6, .int (nI (smM n F S k))), (5, .int (nI k)), (0, .ref 98), (1, .ref q), (2, .int (nI s)), (3, .int (nI (bI wk)))]) dX9_areUnlike_50 (Nat.le_of_ble_eq_true rfl) rfl ?_
      refine g_iconst (v := nI 0) dX9_areUnlike_52 (by decide +kernel) ?_
      refine g_istore (ls' := [(7, .int (nI 0)), (4, .int (nI (bI (unI n wk F S k (unM n wk F S k && decide (smM n F S k ≠ 0)) 0)))), (6, .int (nI (smM n F S k))), (5, .int (nI k)), (0, .ref 98), (1, .ref q), (2, .int (nI s)), (3, .int (nI (bI wk)))]) dX9_areUnlike_53 (Nat.le_of_ble_eq_true rfl) rfl ?_
      refine g_lsub_ (ls2 := [(7, .int (nI 0)), (0, .ref 98), (1, .ref q), (2, .int (nI s)), (3, .int (nI (bI wk))), (4, .int (nI (bI (unI n wk F S k (unM n wk F S k && decide (smM n F S k ≠ 0)) 0)))), (5, .int (nI k)), (6, .int (nI (smM n F S k)))]) [0, 4, 5, 6, 7, 1, 3, 2] rfl ?_
      refine lp_unI hO h3 n3 hR hs lR hl hF k (by omega) (unM n wk F S k && decide (smM n F S k ≠ 0)) ?_ k 0 (by omega)
      show G mX9_areUnlike (rmD 2 0 0) none (pv (.int (nI (bI (unM n wk F S ((n - 1) / 2))))) h) 0 0 124 [(7, .int (nI k)), (0, .ref 98), (1, .ref q), (2, .int (nI s)), (3, .int (nI (bI wk))), (4, .int (nI (bI (unM n wk F S (k + 1))))), (5, .int (nI k)), (6, .int (nI (smM n F S k)))] [] h
      refine g_iinc (q := 6) (v := nI (k + 1)) (ls' := [(5, .int (nI (k + 1))), (7, .int (nI k)), (0, .ref 98), (1, .ref q), (2, .int (nI s)), (3, .int (nI (bI wk))), (4, .int (nI (bI (unM n wk F S (k + 1))))), (6, .int (nI (smM n F S k)))]) dX9_areUnlike_124 rfl (inc1 _) (Nat.le_of_ble_eq_true rfl) rfl ?_
      refine g_goto 6 dX9_areUnlike_127 (by decide) ?_
      refine g_lsub_ (ls2 := [(5, .int (nI (k + 1))), (0, .ref 98), (1, .ref q), (2, .int (nI s)), (3, .int (nI (bI wk))), (4, .int (nI (bI (unM n wk F S (k + 1)))))]) [0, 2, 3, 4, 5, 6] rfl ?_
      exact ih (k + 1) (by omega)
    · refine g_iconst (v := nI 1) dX9_areUnlike_44 (by decide +kernel) ?_
      refine g_goto 49 dX9_areUnlike_45 (by decide) ?_
      refine g_iandN dX9_areUnlike_49 ?_
      refine g_top (show nI ((bI (unM n wk F S k)) &&& 1) = nI (bI (unI n wk F S k (unM n wk F S k && decide (smM n F S k ≠ 0)) 0)) from congrArg nI (un_t (decide_eq_true (show smM n F S k ≠ 0 by omega)))) ?_
      refine g_istore (ls' := [(4, .int (nI (bI (unI n wk F S k (unM n wk F S k && decide (smM n F S k ≠ 0)) 0)))), (6, .int (nI (smM n F S k))), (5, .int (nI k)), (0, .ref 98), (1, .ref q), (2, .int (nI s)), (3, .int (nI (bI wk)))]) dX9_areUnlike_50 (Nat.le_of_ble_eq_true rfl) rfl ?_
      refine g_iconst (v := nI 0) dX9_areUnlike_52 (by decide +kernel) ?_
      refine g_istore (ls' := [(7, .int (nI 0)), (4, .int (nI (bI (unI n wk F S k (unM n wk F S k && decide (smM n F S k ≠ 0)) 0)))), (6, .int (nI (smM n F S k))), (5, .int (nI k)), (0, .ref 98), (1, .ref q), (2, .int (nI s)), (3, .int (nI (bI wk)))]) dX9_areUnlike_53 (Nat.le_of_ble_eq_true rfl) rfl ?_
      refine g_lsub_ (ls2 := [(7, .int (nI 0)), (0, .ref 98), (1, .ref q), (2, .int (nI s)), (3, .int (nI (bI wk))), (4, .int (nI (bI (unI n wk F S k (unM n wk F S k && decide (smM n F S k ≠ 0)) 0)))), (5, .int (nI k)), (6, .int (nI (smM n F S k)))]) [0, 4, 5, 6, 7, 1, 3, 2] rfl ?_
      refine lp_unI hO h3 n3 hR hs lR hl hF k (by omega) (unM n wk F S k && decide (smM n F S k ≠ 0)) ?_ k 0 (by omega)
      show G mX9_areUnlike (rmD 2 0 0) none (pv (.int (nI (bI (unM n wk F S ((n - 1) / 2))))) h) 0 0 124 [(7, .int (nI k)), (0, .ref 98), (1, .ref q), (2, .int (nI s)), (3, .int (nI (bI wk))), (4, .int (nI (bI (unM n wk F S (k + 1))))), (5, .int (nI k)), (6, .int (nI (smM n F S k)))] [] h
      refine g_iinc (q := 6) (v := nI (k + 1)) (ls' := [(5, .int (nI (k + 1))), (7, .int (nI k)), (0, .ref 98), (1, .ref q), (2, .int (nI s)), (3, .int (nI (bI wk))), (4, .int (nI (bI (unM n wk F S (k + 1))))), (6, .int (nI (smM n F S k)))]) dX9_areUnlike_124 rfl (inc1 _) (Nat.le_of_ble_eq_true rfl) rfl ?_
      refine g_goto 6 dX9_areUnlike_127 (by decide) ?_
      refine g_lsub_ (ls2 := [(5, .int (nI (k + 1))), (0, .ref 98), (1, .ref q), (2, .int (nI s)), (3, .int (nI (bI wk))), (4, .int (nI (bI (unM n wk F S (k + 1)))))]) [0, 2, 3, 4, 5, 6] rfl ?_
      exact ih (k + 1) (by omega)

set_option maxRecDepth 100000 in
set_option maxHeartbeats 4000000 in
theorem ev_unlike {h : List aC} {n m a de : Nat} {fo as_ sm sk z : Int32} {am : Nat} {ib : Bool} {iN iM iT : Int32} (hO : MO h n m a de fo as_ sm sk z am ib iN iM iT) (h3 : 3 ≤ n) (n3 : n ≤ 13) {q s : Nat} {R : List Int32} (hR : rd h q = some (.inl R)) (hs : s ≤ 3) (lR : R.length ≤ 400) (hl : ∀ k, k < (n - 1) / 2 → s * k + 1 < R.length) {F S : List Nat} (hF : ∀ k, k < (n - 1) / 2 → R.getD (s * k) 0 = nI (F.getD k 0) ∧ R.getD (s * k + 1) 0 = nI (S.getD k 0) ∧ F.getD k 0 < n ∧ S.getD k 0 < n) {wk : Bool} : Ev mX9_areUnlike 2 0 0 [.ref 98, .ref q, .int (nI s), .int (nI (bI wk))] h (pv (.int (nI (bI (unM n wk F S ((n - 1) / 2))))) h) := by
  refine Ev.of pX9_areUnlike (Nat.le_of_ble_eq_true rfl) ?_
  show G mX9_areUnlike (rmD 2 0 0) none _ 0 0 0 [(0, .ref 98), (1, .ref q), (2, .int (nI s)), (3, .int (nI (bI wk)))] [] h
  refine g_iconst (v := nI 1) dX9_areUnlike_0 (by decide +kernel) ?_
  refine g_top (show nI 1 = nI (bI (unM n wk F S 0)) from rfl) ?_
  refine g_istore (ls' := [(4, .int (nI (bI (unM n wk F S 0)))), (0, .ref 98), (1, .ref q), (2, .int (nI s)), (3, .int (nI (bI wk)))]) dX9_areUnlike_1 (Nat.le_of_ble_eq_true rfl) rfl ?_
  refine g_iconst (v := nI 0) dX9_areUnlike_3 (by decide +kernel) ?_
  refine g_istore (ls' := [(5, .int (nI 0)), (4, .int (nI (bI (unM n wk F S 0)))), (0, .ref 98), (1, .ref q), (2, .int (nI s)), (3, .int (nI (bI wk)))]) dX9_areUnlike_4 (Nat.le_of_ble_eq_true rfl) rfl ?_
  refine g_lsub_ (ls2 := [(5, .int (nI 0)), (0, .ref 98), (1, .ref q), (2, .int (nI s)), (3, .int (nI (bI wk))), (4, .int (nI (bI (unM n wk F S 0))))]) [0, 2, 3, 4, 5, 1] rfl ?_
  exact lp_unO hO h3 n3 hR hs lR hl hF ((n - 1) / 2) 0 (by omega)
