def nBM (X Y : Nat → Nat) : Nat → Nat
  | 0 => 0
  | k + 1 => nBM X Y k ||| (2 ^ X k ||| 2 ^ Y k)
def dBM (n : Nat) (X Y : Nat → Nat) : Nat → Nat
  | 0 => 0
  | k + 1 => dBM n X Y k ||| (2 ^ ((X k + n - Y k) % n) ||| 2 ^ ((Y k + n - X k) % n))
theorem nBM_lt {n : Nat} {X Y : Nat → Nat} (hn : n ≤ 13) : ∀ k, (∀ i, i < k → X i < n ∧ Y i < n) → nBM X Y k < 2 ^ 13
  | 0, _ => Nat.two_pow_pos 13
  | k + 1, h => by
    obtain ⟨a, b⟩ := h k (by omega)
    exact or_lt (nBM_lt hn k (fun i hi => h i (by omega))) (or_lt (pw_lt (by omega)) (pw_lt (by omega)))
theorem dBM_lt {n : Nat} {X Y : Nat → Nat} (h0 : 0 < n) (hn : n ≤ 13) : ∀ k, dBM n X Y k < 2 ^ 13
  | 0 => Nat.two_pow_pos 13
  | k + 1 => or_lt (dBM_lt h0 hn k) (or_lt (pw_lt (Nat.lt_of_lt_of_le (Nat.mod_lt _ h0) hn)) (pw_lt (Nat.lt_of_lt_of_le (Nat.mod_lt _ h0) hn)))
theorem nBM_eq {F S : List Nat} {X Y : Nat → Nat} : ∀ k, (∀ i, i < k → X i = F.getD i 0 ∧ Y i = S.getD i 0) → nBM X Y k = nBits F S k
  | 0, _ => rfl
  | k + 1, h => by
    obtain ⟨a, b⟩ := h k (by omega)
    show nBM X Y k ||| _ = nBits F S k ||| _
    rw [nBM_eq k (fun i hi => h i (by omega)), a, b]
theorem dBM_eq {n : Nat} {F S : List Nat} {X Y : Nat → Nat} : ∀ k, (∀ i, i < k → X i = F.getD i 0 ∧ Y i = S.getD i 0) → dBM n X Y k = dBits n F S k
  | 0, _ => rfl
  | k + 1, h => by
    obtain ⟨a, b⟩ := h k (by omega)
    show dBM n X Y k ||| _ = (dBits n F S k ||| _) ||| _
    rw [dBM_eq k (fun i hi => h i (by omega)), a, b, Nat.or_assoc]
theorem df_all : ∀ n, n < 14 → 0 < n → ∀ a, a < n → ∀ b, b < n → (nI a - nI b + nI n) - (nI a - nI b + nI n) / nI n * nI n = nI ((a + n - b) % n) := by decide +kernel
theorem pw13m {n : Nat} (h : n ≤ 13) : 2 ^ n ≤ 8192 := Nat.pow_le_pow_right (by decide) h
theorem pw2 {n : Nat} (h : 1 ≤ n) : 2 ≤ 2 ^ n := Nat.pow_le_pow_right (n := 2) (i := 1) (by decide) h
def okM (n : Nat) (R : List Int32) (u s k : Nat) : Bool := decide (nI 1 ≤ R.getD (u + s * k) 0 ∧ R.getD (u + s * k) 0 ≤ nI (n - 1)) && decide (nI 1 ≤ R.getD (u + s * k + 1) 0 ∧ R.getD (u + s * k + 1) 0 ≤ nI (n - 1))
def stM (n m : Nat) (R : List Int32) (u s : Nat) (X Y : Nat → Nat) : Bool := decide ((∀ k, k < m → okM n R u s k = true) ∧ m = (n - 1) / 2 ∧ nBM X Y m = 2 ^ n - 2 ∧ dBM n X Y m = 2 ^ n - 2)

set_option maxRecDepth 100000 in
set_option maxHeartbeats 4000000 in
theorem lp_mst {h : List aC} {n m q u s : Nat} {R : List Int32} (hR : rd h q = some (.inl R)) (n3 : n ≤ 13) (h3 : 3 ≤ n) (hm : m ≤ 20) (hs : s ≤ 3) (hu : u ≤ 80) (hl : ∀ k, k < m → u + s * k + 1 < R.length) (hl2 : R.length ≤ 400) {X Y : Nat → Nat} (hF : ∀ k, k < m → okM n R u s k = true → R.getD (u + s * k) 0 = nI (X k) ∧ R.getD (u + s * k + 1) 0 = nI (Y k) ∧ X k < n ∧ Y k < n) : ∀ j k , k + j = m → (∀ i, i < k → okM n R u s i = true) → G mX9_isStarter (rmD 2 0 0) none (pv (.int (nI (bI (stM n m R u s X Y)))) h) 0 0 9 [(7, .int (nI k)), (0, .ref q), (1, .int (nI u)), (2, .int (nI s)), (3, .int (nI m)), (4, .int (nI n)), (5, .int (nI (nBM X Y k))), (6, .int (nI (dBM n X Y k)))] [] h := by
  intro j
  induction j with
  | zero =>
    intro k  hk hk2
    have h0 : 0 < n := by omega
    have nb := nBM_lt (X := X) (Y := Y) n3 k (fun i hi => (hF i (by omega) (hk2 i hi)).2.2)
    have db := dBM_lt (X := X) (Y := Y) h0 n3 k
    have pw := pw13m n3
    have pw1 := pw2 (show 1 ≤ n by omega)
    refine g_iload dX9_isStarter_9 0 rfl ?_
    refine g_iload_n dX9_isStarter_11 4 rfl ?_
    refine g_icmp_geN 121 dX9_isStarter_12 (by decide) (by omega) (by omega) (fun c12 => ?_) (fun z => absurd z (by omega))
    refine g_iconst (v := nI 1) dX9_isStarter_121 (by decide +kernel) ?_
    refine g_iload dX9_isStarter_122 5 rfl ?_
    refine g_ishl1 dX9_isStarter_124 (by first | omega | exact Nat.lt_of_lt_of_le (Nat.mod_lt _ (by omega)) (by omega)) ?_
    refine g_iconst (v := nI 2) dX9_isStarter_125 (by decide +kernel) ?_
    refine g_isubN dX9_isStarter_126 (by omega) ?_
    refine g_istore (ls' := [(7, .int (nI ((2 ^ n) - 2))), (0, .ref q), (1, .int (nI u)), (2, .int (nI s)), (3, .int (nI m)), (4, .int (nI n)), (5, .int (nI (nBM X Y k))), (6, .int (nI (dBM n X Y k)))]) dX9_isStarter_127 (Nat.le_of_ble_eq_true rfl) rfl ?_
    refine g_iload_n dX9_isStarter_129 4 rfl ?_
    refine g_iload dX9_isStarter_130 5 rfl ?_
    refine g_iconst (v := nI 1) dX9_isStarter_132 (by decide +kernel) ?_
    refine g_isubN dX9_isStarter_133 (by omega) ?_
    refine g_iconst (v := nI 2) dX9_isStarter_134 (by decide +kernel) ?_
    refine g_idivN dX9_isStarter_135 (by omega) (by omega) (by omega) ?_
    refine g_icmp_neN 157 dX9_isStarter_136 (by decide) (by omega) (by omega) (fun c136 => ?_) (fun c136 => ?_)
    · refine g_iconst (v := nI 0) dX9_isStarter_157 (by decide +kernel) ?_
      exact g_zret dX9_isStarter_158 rfl (by decide) ⟨Nat.zero_le _, Nat.zero_le _⟩ (by obtain rfl : k = m := (by omega); exact ⟨by rw [show stM n k R u s X Y = false from decide_eq_false (fun z => by omega)]; rfl, rfl⟩)
    · refine g_iload dX9_isStarter_139 6 rfl ?_
      refine g_iload dX9_isStarter_141 0 rfl ?_
      refine g_icmp_neN 157 dX9_isStarter_143 (by decide) (by omega) (by omega) (fun c143 => ?_) (fun c143 => ?_)
      · refine g_iconst (v := nI 0) dX9_isStarter_157 (by decide +kernel) ?_
        exact g_zret dX9_isStarter_158 rfl (by decide) ⟨Nat.zero_le _, Nat.zero_le _⟩ (by obtain rfl : k = m := (by omega); exact ⟨by rw [show stM n k R u s X Y = false from decide_eq_false (fun z => c143 z.2.2.1)]; rfl, rfl⟩)
      · refine g_iload dX9_isStarter_146 7 rfl ?_
        refine g_iload dX9_isStarter_148 0 rfl ?_
        refine g_icmp_neN 157 dX9_isStarter_150 (by decide) (by omega) (by omega) (fun c150 => ?_) (fun c150 => ?_)
        · refine g_iconst (v := nI 0) dX9_isStarter_157 (by decide +kernel) ?_
          exact g_zret dX9_isStarter_158 rfl (by decide) ⟨Nat.zero_le _, Nat.zero_le _⟩ (by obtain rfl : k = m := (by omega); exact ⟨by rw [show stM n k R u s X Y = false from decide_eq_false (fun z => c150 z.2.2.2)]; rfl, rfl⟩)
        · refine g_iconst (v := nI 1) dX9_isStarter_153 (by decide +kernel) ?_
          refine g_goto 158 dX9_isStarter_154 (by decide) ?_
          exact g_zret dX9_isStarter_158 rfl (by decide) ⟨Nat.zero_le _, Nat.zero_le _⟩ (by obtain rfl : k = m := (by omega); exact ⟨by rw [show stM n k R u s X Y = true from decide_eq_true ⟨fun i hi => hk2 i (by omega), by omega, c143, c150⟩]; rfl, rfl⟩)
  | succ j ih =>
    intro k  hk hk2
    have h0 : 0 < n := by omega
    have lk := hl k (by omega)
    have nb := nBM_lt (X := X) (Y := Y) n3 k (fun i hi => (hF i (by omega) (hk2 i hi)).2.2)
    have db := dBM_lt (X := X) (Y := Y) h0 n3 k
    have pw := pw13m n3
    have pw1 := pw2 (show 1 ≤ n by omega)
    refine g_iload dX9_isStarter_9 0 rfl ?_
    refine g_iload_n dX9_isStarter_11 4 rfl ?_
    refine g_icmp_geN 121 dX9_isStarter_12 (by decide) (by omega) (by omega) (fun z => absurd z (by omega)) (fun c12 => ?_)
    refine g_aload_n dX9_isStarter_15 1 rfl ?_
    refine g_iload_n dX9_isStarter_16 2 rfl ?_
    refine g_iload_n dX9_isStarter_17 3 rfl ?_
    refine g_iload dX9_isStarter_18 0 rfl ?_
    refine g_imulN dX9_isStarter_20 ?_
    refine g_iaddN dX9_isStarter_21 ?_
    refine g_ialI dX9_isStarter_22 (hR) (by omega) (by omega) ?_
    refine g_istore (ls' := [(8, .int ((R).getD (u + (s * k)) 0)), (7, .int (nI k)), (0, .ref q), (1, .int (nI u)), (2, .int (nI s)), (3, .int (nI m)), (4, .int (nI n)), (5, .int (nI (nBM X Y k))), (6, .int (nI (dBM n X Y k)))]) dX9_isStarter_23 (Nat.le_of_ble_eq_true rfl) rfl ?_
    refine g_aload_n dX9_isStarter_25 2 rfl ?_
    refine g_iload_n dX9_isStarter_26 3 rfl ?_
    refine g_iload_n dX9_isStarter_27 4 rfl ?_
    refine g_iload dX9_isStarter_28 1 rfl ?_
    refine g_imulN dX9_isStarter_30 ?_
    refine g_iaddN dX9_isStarter_31 ?_
    refine g_iconst (v := nI 1) dX9_isStarter_32 (by decide +kernel) ?_
    refine g_iaddN dX9_isStarter_33 ?_
    refine g_ialI dX9_isStarter_34 (hR) (by omega) (by omega) ?_
    refine g_istore (ls' := [(9, .int ((R).getD ((u + (s * k)) + 1) 0)), (8, .int ((R).getD (u + (s * k)) 0)), (7, .int (nI k)), (0, .ref q), (1, .int (nI u)), (2, .int (nI s)), (3, .int (nI m)), (4, .int (nI n)), (5, .int (nI (nBM X Y k))), (6, .int (nI (dBM n X Y k)))]) dX9_isStarter_35 (Nat.le_of_ble_eq_true rfl) rfl ?_
    refine g_iload dX9_isStarter_37 1 rfl ?_
    refine g_i2l dX9_isStarter_39 rfl ?_
    refine g_lconst (v := lN 1) dX9_isStarter_40 rfl ?_
    refine g_iload dX9_isStarter_41 7 rfl ?_
    refine g_iconst (v := nI 1) dX9_isStarter_43 (by decide +kernel) ?_
    refine g_isubN dX9_isStarter_44 (by omega) ?_
    refine g_i2l (v := lN (n - 1)) dX9_isStarter_45 (nI_l (by omega)) ?_
    refine g_callSp dX9_isStarter_46 (ev_inN (R.getD (u + s * k) 0) 1 (n - 1) (by decide) (by omega) _) oX9_in wsX9_in wmX9_98 rfl ⟨(Nat.le_of_ble_eq_true rfl), (Nat.le_of_ble_eq_true rfl)⟩ ⟨Nat.zero_le _, Nat.zero_le _⟩ (Nat.le_of_ble_eq_true rfl) rfl ?_
    refine g_if_eqB 67 dX9_isStarter_49 (by decide) (fun c49 => ?_) (fun c49 => ?_)
    · refine g_iconst (v := nI 0) dX9_isStarter_67 (by decide +kernel) ?_
      exact g_zret dX9_isStarter_68 rfl (by decide) ⟨Nat.zero_le _, Nat.zero_le _⟩ (⟨by rw [show stM n m R u s X Y = false from decide_eq_false (fun z => by have z2 := z.1 k (by omega); unfold okM at z2; rw [c49, Bool.false_and] at z2; exact absurd z2 (by decide))]; rfl, rfl⟩)
    · refine g_iload dX9_isStarter_52 0 rfl ?_
      refine g_i2l dX9_isStarter_54 rfl ?_
      refine g_lconst (v := lN 1) dX9_isStarter_55 rfl ?_
      refine g_iload dX9_isStarter_56 7 rfl ?_
      refine g_iconst (v := nI 1) dX9_isStarter_58 (by decide +kernel) ?_
      refine g_isubN dX9_isStarter_59 (by omega) ?_
      refine g_i2l (v := lN (n - 1)) dX9_isStarter_60 (nI_l (by omega)) ?_
      refine g_callSp dX9_isStarter_61 (ev_inN (R.getD (u + s * k + 1) 0) 1 (n - 1) (by decide) (by omega) _) oX9_in wsX9_in wmX9_98 rfl ⟨(Nat.le_of_ble_eq_true rfl), (Nat.le_of_ble_eq_true rfl)⟩ ⟨Nat.zero_le _, Nat.zero_le _⟩ (Nat.le_of_ble_eq_true rfl) rfl ?_
      refine g_if_neB 69 dX9_isStarter_64 (by decide) (fun c64 => ?_) (fun c64 => ?_)
      · have okk : okM n R u s k = true := by unfold okM; rw [c49, c64]; rfl
        obtain ⟨ex, ey, xl, yl⟩ := hF k (by omega) okk
        rw [ex, ey]
        refine g_iload dX9_isStarter_69 8 rfl ?_
        refine g_iconst (v := nI 1) dX9_isStarter_71 (by decide +kernel) ?_
        refine g_iload dX9_isStarter_72 1 rfl ?_
        refine g_ishl1 dX9_isStarter_74 (by first | omega | exact Nat.lt_of_lt_of_le (Nat.mod_lt _ (by omega)) (by omega)) ?_
        refine g_iconst (v := nI 1) dX9_isStarter_75 (by decide +kernel) ?_
        refine g_iload dX9_isStarter_76 0 rfl ?_
        refine g_ishl1 dX9_isStarter_78 (by first | omega | exact Nat.lt_of_lt_of_le (Nat.mod_lt _ (by omega)) (by omega)) ?_
        refine g_iorN dX9_isStarter_79 ?_
        refine g_iorN dX9_isStarter_80 ?_
        refine g_istore (ls' := [(5, .int (nI ((nBM X Y k) ||| ((2 ^ (X k)) ||| (2 ^ (Y k)))))), (9, .int (nI (Y k))), (8, .int (nI (X k))), (7, .int (nI k)), (0, .ref q), (1, .int (nI u)), (2, .int (nI s)), (3, .int (nI m)), (4, .int (nI n)), (6, .int (nI (dBM n X Y k)))]) dX9_isStarter_81 (Nat.le_of_ble_eq_true rfl) rfl ?_
        refine g_iload dX9_isStarter_83 9 rfl ?_
        refine g_iconst (v := nI 1) dX9_isStarter_85 (by decide +kernel) ?_
        refine g_iload dX9_isStarter_86 2 rfl ?_
        refine g_iload dX9_isStarter_88 1 rfl ?_
        refine g_isub dX9_isStarter_90 ?_
        refine g_iload dX9_isStarter_91 8 rfl ?_
        refine g_iadd dX9_isStarter_93 ?_
        refine g_iload dX9_isStarter_94 8 rfl ?_
        refine g_irem dX9_isStarter_96 (fun z => by have := (nI_eq (a := n) (b := 0) (by omega) (by omega)).mp z; omega) ?_
        refine g_top (df_all n (by omega) h0 (X k) (by omega) (Y k) (by omega)) ?_
        refine g_ishl1 dX9_isStarter_97 (by have := Nat.mod_lt (X k + n - Y k) h0; omega) ?_
        refine g_iconst (v := nI 1) dX9_isStarter_98 (by decide +kernel) ?_
        refine g_iload dX9_isStarter_99 1 rfl ?_
        refine g_iload dX9_isStarter_101 2 rfl ?_
        refine g_isub dX9_isStarter_103 ?_
        refine g_iload dX9_isStarter_104 8 rfl ?_
        refine g_iadd dX9_isStarter_106 ?_
        refine g_iload dX9_isStarter_107 8 rfl ?_
        refine g_irem dX9_isStarter_109 (fun z => by have := (nI_eq (a := n) (b := 0) (by omega) (by omega)).mp z; omega) ?_
        refine g_top (df_all n (by omega) h0 (Y k) (by omega) (X k) (by omega)) ?_
        refine g_ishl1 dX9_isStarter_110 (by have := Nat.mod_lt (Y k + n - X k) h0; omega) ?_
        refine g_iorN dX9_isStarter_111 ?_
        refine g_iorN dX9_isStarter_112 ?_
        refine g_istore (ls' := [(6, .int (nI ((dBM n X Y k) ||| ((2 ^ ((X k + n - Y k) % n)) ||| (2 ^ ((Y k + n - X k) % n)))))), (5, .int (nI ((nBM X Y k) ||| ((2 ^ (X k)) ||| (2 ^ (Y k)))))), (9, .int (nI (Y k))), (8, .int (nI (X k))), (7, .int (nI k)), (0, .ref q), (1, .int (nI u)), (2, .int (nI s)), (3, .int (nI m)), (4, .int (nI n))]) dX9_isStarter_113 (Nat.le_of_ble_eq_true rfl) rfl ?_
        refine g_iinc (q := 4) (v := nI (k + 1)) (ls' := [(7, .int (nI (k + 1))), (6, .int (nI ((dBM n X Y k) ||| ((2 ^ ((X k + n - Y k) % n)) ||| (2 ^ ((Y k + n - X k) % n)))))), (5, .int (nI ((nBM X Y k) ||| ((2 ^ (X k)) ||| (2 ^ (Y k)))))), (9, .int (nI (Y k))), (8, .int (nI (X k))), (0, .ref q), (1, .int (nI u)), (2, .int (nI s)), (3, .int (nI m)), (4, .int (nI n))]) dX9_isStarter_115 rfl (inc1 _) (Nat.le_of_ble_eq_true rfl) rfl ?_
        refine g_goto 9 dX9_isStarter_118 (by decide) ?_
        refine g_lsub_ (ls2 := [(7, .int (nI (k + 1))), (0, .ref q), (1, .int (nI u)), (2, .int (nI s)), (3, .int (nI m)), (4, .int (nI n)), (5, .int (nI ((nBM X Y k) ||| ((2 ^ (X k)) ||| (2 ^ (Y k)))))), (6, .int (nI ((dBM n X Y k) ||| ((2 ^ ((X k + n - Y k) % n)) ||| (2 ^ ((Y k + n - X k) % n))))))]) [0, 5, 6, 7, 8, 9, 2, 1] rfl ?_
        exact ih (k + 1) (by omega) (fun i hi => by by_cases q2 : i = k; (subst q2; exact okk); exact hk2 i (by omega))
      · refine g_iconst (v := nI 0) dX9_isStarter_67 (by decide +kernel) ?_
        exact g_zret dX9_isStarter_68 rfl (by decide) ⟨Nat.zero_le _, Nat.zero_le _⟩ (⟨by rw [show stM n m R u s X Y = false from decide_eq_false (fun z => by have z2 := z.1 k (by omega); unfold okM at z2; rw [c64, Bool.and_false] at z2; exact absurd z2 (by decide))]; rfl, rfl⟩)

set_option maxRecDepth 100000 in
set_option maxHeartbeats 4000000 in
theorem ev_mst {h : List aC} {n m q u s : Nat} {R : List Int32} (hR : rd h q = some (.inl R)) (n3 : n ≤ 13) (h3 : 3 ≤ n) (hm : m ≤ 20) (hs : s ≤ 3) (hu : u ≤ 80) (hl : ∀ k, k < m → u + s * k + 1 < R.length) (hl2 : R.length ≤ 400) {X Y : Nat → Nat} (hF : ∀ k, k < m → okM n R u s k = true → R.getD (u + s * k) 0 = nI (X k) ∧ R.getD (u + s * k + 1) 0 = nI (Y k) ∧ X k < n ∧ Y k < n) : Ev mX9_isStarter 2 0 0 [.ref q, .int (nI u), .int (nI s), .int (nI m), .int (nI n)] h (pv (.int (nI (bI (stM n m R u s X Y)))) h) := by
  refine Ev.of pX9_isStarter (Nat.le_of_ble_eq_true rfl) ?_
  show G mX9_isStarter (rmD 2 0 0) none _ 0 0 0 [(0, .ref q), (1, .int (nI u)), (2, .int (nI s)), (3, .int (nI m)), (4, .int (nI n))] [] h
  refine g_iconst (v := nI 0) dX9_isStarter_0 (by decide +kernel) ?_
  refine g_istore (ls' := [(5, .int (nI 0)), (0, .ref q), (1, .int (nI u)), (2, .int (nI s)), (3, .int (nI m)), (4, .int (nI n))]) dX9_isStarter_1 (Nat.le_of_ble_eq_true rfl) rfl ?_
  refine g_iconst (v := nI 0) dX9_isStarter_3 (by decide +kernel) ?_
  refine g_istore (ls' := [(6, .int (nI 0)), (5, .int (nI 0)), (0, .ref q), (1, .int (nI u)), (2, .int (nI s)), (3, .int (nI m)), (4, .int (nI n))]) dX9_isStarter_4 (Nat.le_of_ble_eq_true rfl) rfl ?_
  refine g_iconst (v := nI 0) dX9_isStarter_6 (by decide +kernel) ?_
  refine g_istore (ls' := [(7, .int (nI 0)), (6, .int (nI 0)), (5, .int (nI 0)), (0, .ref q), (1, .int (nI u)), (2, .int (nI s)), (3, .int (nI m)), (4, .int (nI n))]) dX9_isStarter_7 (Nat.le_of_ble_eq_true rfl) rfl ?_
  refine g_lsub_ (ls2 := [(7, .int (nI 0)), (0, .ref q), (1, .int (nI u)), (2, .int (nI s)), (3, .int (nI m)), (4, .int (nI n)), (5, .int (nI 0)), (6, .int (nI 0))]) [0, 3, 4, 5, 6, 7, 2, 1] rfl ?_
  exact lp_mst hR n3 h3 hm hs hu hl hl2 hF m 0 (by omega) (fun i hi => absurd hi (Nat.not_lt_zero i))

theorem stM_pairs {n m : Nat} {P : List Int32} {f : Nat → Pr} (vP : pR P 0 m f) (hn : n ≤ 13) (h3 : 3 ≤ n) (hm : m ≤ 6) (k5 : ∀ k, k < m → okPr n (f k)) : stM n m P 0 3 (fun k => (f k).1) (fun k => (f k).2.1) = isSt n m (qF f) (qS f) := by
  unfold stM isSt
  have e : ∀ i, i < m → (f i).1 = (qF f).getD i 0 ∧ (f i).2.1 = (qS f).getD i 0 := fun i hi => ⟨(map6 (fun k => (f k).1) (by omega)).symm, (map6 (fun k => (f k).2.1) (by omega)).symm⟩
  rw [nBM_eq m e, dBM_eq m e]
  congr 1
  apply propext
  have ok : ∀ k, k < m → okM n P 0 3 k = true := fun k hk => by
    obtain ⟨j1, j2, j3, j4, -, -⟩ := k5 k hk
    unfold okM
    have a : P.getD (0 + 3 * k) 0 = nI (f k).1 := by rw [Nat.zero_add]; exact pR0 vP hk
    have b : P.getD (0 + 3 * k + 1) 0 = nI (f k).2.1 := by rw [Nat.zero_add]; exact pR1 vP hk
    rw [a, b, decide_eq_true ⟨(nI_leI (by omega) (by omega)).mpr j1, (nI_leI (by omega) (by omega)).mpr (by omega)⟩, decide_eq_true ⟨(nI_leI (by omega) (by omega)).mpr j3, (nI_leI (by omega) (by omega)).mpr (by omega)⟩]
    rfl
  exact ⟨fun z => z.2, fun z => ⟨ok, z⟩⟩

set_option maxRecDepth 100000 in
set_option maxHeartbeats 4000000 in
theorem ev_isOne {h : List aC} {σ : Sg} (H : RM h σ) (ok : okSg σ) : Ev mX9_isOne 3 0 0 [.ref 98] h (pv (.int (nI (bI (isSt σ.1.1 σ.1.2.1 (qF σ.1.2.2.1) (qS σ.1.2.2.1))))) h) := by
  obtain ⟨fo, as_, sm, sk, z, iN, iM, iT, P, Ro, U, rf, WM, WP, WR, Tr, Ke, Co, Th, Be, Le, AP, AR, AU, Sz, It, IP, IR, IU, mO, mP, mRo, mU, mrf, mWM, mWP, mWR, mTr, mKe, mCo, mTh, mBe, mLe, mAP, mAR, mAU, mSz, mIt, mIP, mIR, mIU, vP, vR, vU, vF, vH, vL, vS, vI, vG⟩ := id H
  have mO : rd h 98 = some (.inr (9, [.int (nI σ.1.1), .int (nI σ.1.2.1), .ref 99, .ref 100, .ref 101, .int (nI σ.1.2.2.2.1), .ref 102, .int (nI ((σ.2.2.2.1).length)), .ref 103, .ref 104, .ref 105, .int fo, .int as_, .int sm, .int sk, .ref 106, .ref 107, .ref 108, .int z, .ref 109, .ref 110, .ref 111, .int (nI σ.2.1.1), .ref 112, .ref 113, .ref 114, .ref 115, .ref 116, .int (nI (bI σ.2.2.2.2.1.isSome)), .int iN, .int iM, .int iT, .ref 117, .ref 118, .ref 119])) := mO
  obtain ⟨mP, lP⟩ := mP
  obtain ⟨mRo, lRo⟩ := mRo
  obtain ⟨mU, lU⟩ := mU
  obtain ⟨mrf, lrf⟩ := mrf
  obtain ⟨mWM, lWM⟩ := mWM
  obtain ⟨mWP, lWP⟩ := mWP
  obtain ⟨mWR, lWR⟩ := mWR
  obtain ⟨mTr, lTr⟩ := mTr
  obtain ⟨mKe, lKe⟩ := mKe
  obtain ⟨mCo, lCo⟩ := mCo
  obtain ⟨mTh, lTh⟩ := mTh
  obtain ⟨mBe, lBe⟩ := mBe
  obtain ⟨mLe, lLe⟩ := mLe
  obtain ⟨mAP, lAP⟩ := mAP
  obtain ⟨mAR, lAR⟩ := mAR
  obtain ⟨mAU, lAU⟩ := mAU
  obtain ⟨mSz, lSz⟩ := mSz
  obtain ⟨mIt, lIt⟩ := mIt
  obtain ⟨mIP, lIP⟩ := mIP
  obtain ⟨mIR, lIR⟩ := mIR
  obtain ⟨mIU, lIU⟩ := mIU
  obtain ⟨okc, ⟨okl, okw⟩, okn, ⟨okh, oke⟩, oki, okr⟩ := id ok
  obtain ⟨k1, k2, k3, k4, k5, k6, k7, k8, k9⟩ := id okc
  refine Ev.of pX9_isOne (Nat.le_of_ble_eq_true rfl) ?_
  show G mX9_isOne (rmD 3 0 0) none _ 0 0 0 [(0, .ref 98)] [] h
  refine g_aload_n dX9_isOne_0 0 rfl ?_
  refine g_getf dX9_isOne_1 kX9 wfX9_13 (Nat.le_of_ble_eq_true rfl) (mO) rfl ?_
  refine g_iconst (v := nI 0) dX9_isOne_4 (by decide +kernel) ?_
  refine g_iconst (v := nI 3) dX9_isOne_5 (by decide +kernel) ?_
  refine g_aload_n dX9_isOne_6 0 rfl ?_
  refine g_getf dX9_isOne_7 kX9 wfX9_87 (Nat.le_of_ble_eq_true rfl) (mO) rfl ?_
  refine g_aload_n dX9_isOne_10 0 rfl ?_
  refine g_getf dX9_isOne_11 kX9 wfX9_7 (Nat.le_of_ble_eq_true rfl) (mO) rfl ?_
  refine g_callSp dX9_isOne_14 (ev_mst mP k2 k1 (by omega) (by omega) (by omega) (fun k hk => by omega) (by omega) (X := fun k => (σ.1.2.2.1 k).1) (Y := fun k => (σ.1.2.2.1 k).2.1) (fun k hk _ => by rw [Nat.zero_add]; exact ⟨pR0 vP hk, pR1 vP hk, (k5 k hk).2.1, (k5 k hk).2.2.2.1⟩)) oX9_isStarter wsX9_isStarter wmX9_141 rfl ⟨(Nat.le_of_ble_eq_true rfl), (Nat.le_of_ble_eq_true rfl)⟩ ⟨Nat.zero_le _, Nat.zero_le _⟩ (Nat.le_of_ble_eq_true rfl) rfl ?_
  refine g_top (congrArg (fun z => nI (bI z)) (stM_pairs vP k2 k1 (by omega) k5)) ?_
  exact g_zret dX9_isOne_17 rfl (narB _) ⟨Nat.zero_le _, Nat.zero_le _⟩ (⟨rfl, rfl⟩)
