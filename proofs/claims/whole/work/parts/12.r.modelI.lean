theorem popS (x : Nat) : ∀ k, popN x k = sumN (fun i => bI (x.testBit i)) k
  | 0 => rfl
  | k + 1 => by
    show popN x k + x / 2 ^ k % 2 = sumN _ k + bI (x.testBit k)
    rw [popS x k, ← Nat.toNat_testBit]
    cases x.testBit k <;> rfl
/-- how often a point stands on a line -/
def cL (g : Nat → Nat) (p : Nat) : Nat → Nat
  | 0 => 0
  | j + 1 => cL g p j + if g j = 0 then 0 else bI (decide (g j / 14 = p)) + bI (decide (g j % 14 = p))
theorem cL_le (g : Nat → Nat) (p : Nat) : ∀ j, cL g p j ≤ 2 * j
  | 0 => Nat.le_refl 0
  | j + 1 => by
    have h := cL_le g p j
    have b : ∀ x : Bool, bI x ≤ 1 := fun x => by cases x <;> decide
    have b1 := b (decide (g j / 14 = p))
    have b2 := b (decide (g j % 14 = p))
    show cL g p j + (if g j = 0 then 0 else _) ≤ _
    split <;> omega
theorem sn_cL {g : Nat → Nat} {p : Nat} : ∀ j, (∀ i, i < j → g i = 0 ∨ g i / 14 < g i % 14) → ((sn g j).1.testBit p = decide (1 ≤ cL g p j)) ∧ ((sn g j).2.testBit p = decide (2 ≤ cL g p j))
  | 0, _ => by
    constructor
    · rw [show (sn g 0).1 = 0 from rfl, Nat.zero_testBit]; rfl
    · rw [show (sn g 0).2 = 0 from rfl, Nat.zero_testBit]; rfl
  | j + 1, h => by
    obtain ⟨h1, h2⟩ := sn_cL j (fun i hi => h i (by omega))
    by_cases q : g j = 0
    · have e : cL g p (j + 1) = cL g p j := by show cL g p j + (if g j = 0 then 0 else _) = _; rw [if_pos q]; omega
      rw [sn_z q, e]
      exact ⟨h1, h2⟩
    · have hd : g j / 14 < g j % 14 := by rcases h j (by omega) with z | z; exact absurd z q; exact z
      have e : cL g p (j + 1) = cL g p j + (bI (decide (g j / 14 = p)) + bI (decide (g j % 14 = p))) := by show cL g p j + (if g j = 0 then 0 else _) = _; rw [if_neg q]
      rw [sn_s (by omega), e]
      simp only [Nat.testBit_or, Nat.testBit_and, Nat.testBit_two_pow, h1, h2]
      by_cases c1 : g j / 14 = p
      · have c2 : ¬ g j % 14 = p := by omega
        rw [decide_eq_true c1, decide_eq_false c2]
        show (_ || (true || false)) = decide (1 ≤ cL g p j + (1 + 0)) ∧ (_ || (_ && (true || false))) = decide (2 ≤ cL g p j + (1 + 0))
        constructor
        · rw [decide_eq_true (show 1 ≤ cL g p j + (1 + 0) by omega)]; cases decide (1 ≤ cL g p j) <;> rfl
        · by_cases z : 1 ≤ cL g p j
          · rw [decide_eq_true z, decide_eq_true (show 2 ≤ cL g p j + (1 + 0) by omega)]; cases decide (2 ≤ cL g p j) <;> rfl
          · rw [decide_eq_false z, decide_eq_false (show ¬ 2 ≤ cL g p j by omega), decide_eq_false (show ¬ 2 ≤ cL g p j + (1 + 0) by omega)]; rfl
      · by_cases c2 : g j % 14 = p
        · rw [decide_eq_false c1, decide_eq_true c2]
          show (_ || (false || true)) = decide (1 ≤ cL g p j + (0 + 1)) ∧ (_ || (_ && (false || true))) = decide (2 ≤ cL g p j + (0 + 1))
          constructor
          · rw [decide_eq_true (show 1 ≤ cL g p j + (0 + 1) by omega)]; cases decide (1 ≤ cL g p j) <;> rfl
          · by_cases z : 1 ≤ cL g p j
            · rw [decide_eq_true z, decide_eq_true (show 2 ≤ cL g p j + (0 + 1) by omega)]; cases decide (2 ≤ cL g p j) <;> rfl
            · rw [decide_eq_false z, decide_eq_false (show ¬ 2 ≤ cL g p j by omega), decide_eq_false (show ¬ 2 ≤ cL g p j + (0 + 1) by omega)]; rfl
        · rw [decide_eq_false c1, decide_eq_false c2]
          show (_ || (false || false)) = decide (1 ≤ cL g p j + (0 + 0)) ∧ (_ || (_ && (false || false))) = decide (2 ≤ cL g p j + (0 + 0))
          rw [show cL g p j + (0 + 0) = cL g p j from rfl]
          constructor
          · cases decide (1 ≤ cL g p j) <;> rfl
          · cases decide (1 ≤ cL g p j) <;> cases decide (2 ≤ cL g p j) <;> rfl
theorem cL_z {g : Nat → Nat} {p n : Nat} (hp : n < p) : ∀ j, (∀ i, i < j → okC n (g i)) → cL g p j = 0
  | 0, _ => rfl
  | j + 1, h => by
    show cL g p j + (if g j = 0 then 0 else _) = 0
    rw [cL_z hp j (fun i hi => h i (by omega))]
    by_cases q : g j = 0
    · rw [if_pos q]
    · rcases h j (by omega) with z | z
      · exact absurd z q
      · rw [if_neg q, decide_eq_false (show ¬ g j / 14 = p by omega), decide_eq_false (show ¬ g j % 14 = p by omega)]; rfl
theorem one_b {c : Nat} : bI (decide (1 ≤ c) && !decide (2 ≤ c)) + bI (decide (c ≠ 1)) = 1 := by
  by_cases h1 : c = 1
  · subst h1; rfl
  · rw [decide_eq_true h1]
    by_cases h2 : 1 ≤ c
    · rw [decide_eq_true h2, decide_eq_true (show 2 ≤ c by omega)]; rfl
    · rw [decide_eq_false h2]; rfl
theorem sumN_add2 (f g : Nat → Nat) : ∀ k, sumN (fun i => f i + g i) k = sumN f k + sumN g k
  | 0 => rfl
  | k + 1 => by
    show sumN _ k + (f k + g k) = (sumN f k + f k) + (sumN g k + g k)
    rw [sumN_add2 f g k]; omega
theorem sumN_one : ∀ k, sumN (fun _ => 1) k = k
  | 0 => rfl
  | k + 1 => by show sumN _ k + 1 = _; rw [sumN_one k]
/-- the faults of a line, counted point by point -/
def lnM (n : Nat) (g : Nat → Nat) : Nat := sumN (fun p => bI (decide (cL g p n ≠ 1))) (n + 1)
theorem lnM_eq {n : Nat} {g : Nat → Nat} (hn : n ≤ 13) (h : ∀ i, i < n → okC n (g i)) : lnM n g = lnF n g := by
  unfold lnF
  rw [popS]
  have hd : ∀ i, i < n → g i = 0 ∨ g i / 14 < g i % 14 := fun i hi => by rcases h i hi with z | z; exact Or.inl z; exact Or.inr z.1
  have e : sumN (fun i => bI (((sn g n).1 &&& (16383 ^^^ (sn g n).2)).testBit i)) 14 = sumN (fun i => bI (decide (1 ≤ cL g i n) && !decide (2 ≤ cL g i n))) 14 := sumN_ext _ fun i hi => by
    obtain ⟨z1, z2⟩ := sn_cL (p := i) n hd
    rw [Nat.testBit_and, Nat.testBit_xor, z1, z2, show 16383 = 2 ^ 14 - 1 by decide, Nat.testBit_two_pow_sub_one, decide_eq_true hi]
    cases decide (2 ≤ cL g i n) <;> rfl
  rw [e]
  have e2 : sumN (fun i => bI (decide (1 ≤ cL g i n) && !decide (2 ≤ cL g i n))) 14 = sumN (fun i => bI (decide (1 ≤ cL g i n) && !decide (2 ≤ cL g i n))) (n + 1) := by
    have z := sumN_add (fun i => bI (decide (1 ≤ cL g i n) && !decide (2 ≤ cL g i n))) (n + 1) (13 - n)
    rw [show n + 1 + (13 - n) = 14 by omega] at z
    rw [z, sumN_zero (13 - n) (fun i _ => by rw [cL_z (p := n + 1 + i) (n := n) (by omega) n h]; rfl), Nat.add_zero]
  rw [e2]
  have e3 := sumN_add2 (fun i => bI (decide (1 ≤ cL g i n) && !decide (2 ≤ cL g i n))) (fun i => bI (decide (cL g i n ≠ 1))) (n + 1)
  rw [sumN_ext (g := fun _ => 1) (n + 1) (fun i _ => one_b), sumN_one] at e3
  unfold lnM
  omega
theorem lnM_le (n : Nat) (g : Nat → Nat) : lnM n g ≤ n + 1 := by
  have h := sumN_le (f := fun p => bI (decide (cL g p n ≠ 1))) 1 (n + 1) (fun i _ => by show bI _ ≤ 1; cases decide (cL g i n ≠ 1) <;> decide)
  unfold lnM
  omega
/-- the faults of the pairs, counted pair by pair -/
def pfM (n : Nat) (rm : Nat → Nat → Nat) : Nat := sumN (fun x => sumN (fun t => bI (decide (cntR n rm (x * 14 + (x + 1 + t)) ≠ 1))) (n - x)) (n + 1)
theorem cntR_z {n v : Nat} {rm : Nat → Nat → Nat} (k8 : ∀ a b, a < n → b < n → okC n (rm a b)) (hv : ¬ okC n v) : cntR n rm v = 0 := sumN_zero _ fun q hq => by
  obtain ⟨a, b, c⟩ := cell_ok hq
  rw [decide_eq_false (fun z : rm (q / n) (q % n) = v => hv (z ▸ k8 _ _ a b))]; rfl
theorem tri (n : Nat) : ∀ k, k ≤ n + 1 → 2 * sumN (fun x => n - x) k = k * (2 * n + 1 - k)
  | 0, _ => by rw [Nat.zero_mul]; rfl
  | k + 1, h => by
    have e := tri n k (by omega)
    show 2 * (sumN (fun x => n - x) k + (n - k)) = _
    rw [Nat.mul_add, e]
    obtain ⟨x, hx⟩ : ∃ x, 2 * n + 1 - k = x + 1 := ⟨2 * n - k, by omega⟩
    rw [show 2 * n + 1 - (k + 1) = x by omega, hx, Nat.mul_add k x 1, Nat.succ_mul k x]
    generalize k * x = w
    omega
theorem pf_link {n : Nat} {rm : Nat → Nat → Nat} (hn : n ≤ 13) (k8 : ∀ a b, a < n → b < n → okC n (rm a b)) : pfM n rm + sumN (onceR n rm) 195 = n * (n + 1) / 2 := by
  have g0 : sumN (onceR n rm) 195 = sumN (fun v => if v = 0 then 0 else bI (decide (cntR n rm v = 1))) 196 := by
    have z := sumN_add (fun v => if v = 0 then 0 else bI (decide (cntR n rm v = 1))) 1 195
    rw [show 1 + 195 = 196 from rfl] at z
    rw [z]
    show _ = (0 + if 0 = 0 then 0 else _) + _
    rw [if_pos rfl, Nat.zero_add]
    refine sumN_ext _ fun i _ => ?_
    show bI (decide (cntR n rm (i + 1) = 1)) = if 1 + i = 0 then 0 else _
    rw [if_neg (by omega), Nat.add_comm 1 i]
  rw [g0, show 196 = 14 * 14 from rfl, sumN_rows _ 14 14]
  have z0 : ∀ a b, a < 14 → b < 14 → ¬ (a < b ∧ b ≤ n) → (if a * 14 + b = 0 then 0 else bI (decide (cntR n rm (a * 14 + b) = 1))) = 0 := fun a b ha hb h => by
    by_cases q : a * 14 + b = 0
    · rw [if_pos q]
    · rw [if_neg q, cntR_z k8 (fun w => by rcases w with w | w <;> omega)]; rfl
  have e1 : sumN (fun a => sumN (fun b => if a * 14 + b = 0 then 0 else bI (decide (cntR n rm (a * 14 + b) = 1))) 14) 14 = sumN (fun a => sumN (fun t => bI (decide (cntR n rm (a * 14 + (a + 1 + t)) = 1))) (n - a)) (n + 1) := by
    have w := sumN_add (fun a => sumN (fun b => if a * 14 + b = 0 then 0 else bI (decide (cntR n rm (a * 14 + b) = 1))) 14) (n + 1) (13 - n)
    rw [show n + 1 + (13 - n) = 14 by omega] at w
    rw [w, sumN_zero (13 - n) (fun i hi => sumN_zero 14 (fun b hb => z0 _ _ (by omega) hb (by omega))), Nat.add_zero]
    refine sumN_ext _ fun a ha => ?_
    have w1 := sumN_add (fun b => if a * 14 + b = 0 then 0 else bI (decide (cntR n rm (a * 14 + b) = 1))) (a + 1) ((n - a) + (13 - n))
    rw [show a + 1 + ((n - a) + (13 - n)) = 14 by omega] at w1
    rw [w1, sumN_zero (a + 1) (fun i hi => z0 _ _ (by omega) (by omega) (by omega)), Nat.zero_add]
    have w2 := sumN_add (fun i => if a * 14 + (a + 1 + i) = 0 then 0 else bI (decide (cntR n rm (a * 14 + (a + 1 + i)) = 1))) (n - a) (13 - n)
    rw [w2, sumN_zero (13 - n) (fun i hi => z0 _ _ (by omega) (by omega) (by omega)), Nat.add_zero]
    exact sumN_ext _ fun t ht => if_neg (by omega)
  rw [e1]
  unfold pfM
  rw [← sumN_add2]
  have e2 : ∀ x, x < n + 1 → sumN (fun t => bI (decide (cntR n rm (x * 14 + (x + 1 + t)) ≠ 1))) (n - x) + sumN (fun t => bI (decide (cntR n rm (x * 14 + (x + 1 + t)) = 1))) (n - x) = n - x := fun x _ => by
    rw [← sumN_add2, sumN_ext (g := fun _ => 1) (n - x) (fun t _ => by
      by_cases q : cntR n rm (x * 14 + (x + 1 + t)) = 1
      · rw [decide_eq_true q, decide_eq_false (not_not_intro q)]; rfl
      · rw [decide_eq_false q, decide_eq_true q]; rfl), sumN_one]
  rw [sumN_ext (n + 1) e2]
  have t := tri n (n + 1) (Nat.le_refl _)
  rw [show 2 * n + 1 - (n + 1) = n by omega, Nat.mul_comm] at t
  have t2 : (n + 1) * n = n * (n + 1) := Nat.mul_comm _ _
  have t3 : sumN (fun x => n - x) (n + 1) = sumN (HSub.hSub n) (n + 1) := rfl
  omega
theorem pfM_eq {n : Nat} {rm : Nat → Nat → Nat} (hn : n ≤ 13) (k8 : ∀ a b, a < n → b < n → okC n (rm a b)) : pfR n rm = nI (pfM n rm) ∧ pfM n rm ≤ 91 := by
  have h := pf_link hn k8
  have b : n * (n + 1) ≤ 13 * 14 := Nat.mul_le_mul hn (by omega)
  refine ⟨?_, by omega⟩
  unfold pfR
  rw [pk_sub (by omega)]
  exact congrArg nI (by omega)
