def sumI (f : Nat → Nat) (n : Nat) : Nat := sumN f n
theorem sumN_zero {f : Nat → Nat} : ∀ k, (∀ i, i < k → f i = 0) → sumN f k = 0
  | 0, _ => rfl
  | k + 1, h => by
    show sumN f k + f k = 0
    rw [sumN_zero k (fun i hi => h i (by omega)), h k (by omega)]
/-- a sum over rows of q cells -/
theorem sumN_rows (g : Nat → Nat) (q : Nat) : ∀ p, sumN g (p * q) = sumN (fun a => sumN (fun b => g (a * q + b)) q) p
  | 0 => by rw [Nat.zero_mul]; rfl
  | p + 1 => by
    rw [Nat.succ_mul, sumN_add, sumN_rows g q p]
    rfl
theorem sum13 {f : Nat → Nat} {n : Nat} (hn : n ≤ 13) (h : ∀ i, n ≤ i → f i = 0) : sumN f 13 = sumN f n := by
  have e := sumN_add f n (13 - n)
  rw [show n + (13 - n) = 13 by omega] at e
  rw [e, sumN_zero (13 - n) (fun i _ => h _ (by omega)), Nat.add_zero]
theorem okC_lt {n v : Nat} (hn : n ≤ 13) (h : okC n v) : v < 196 := by
  rcases h with h | h <;> omega
theorem fil_link {Ro : List Int32} {n : Nat} {rm : Nat → Nat → Nat} (h0 : 0 < n) (hn : n ≤ 13) (vR : rR Ro 0 rm) (k8 : ∀ a b, a < n → b < n → okC n (rm a b)) (k9 : ∀ a b, n ≤ a ∨ n ≤ b → rm a b = 0) : filM Ro 169 = filR n rm := by
  have lt : ∀ a b, rm a b < 196 := fun a b => by
    by_cases q : a < n ∧ b < n
    · exact okC_lt hn (k8 a b q.1 q.2)
    · rw [k9 a b (by omega)]; omega
  have e1 : filM Ro 169 = sumN (fun a => sumN (fun b => bI (decide (rm a b ≠ 0))) 13) 13 := by
    unfold filM
    rw [show 169 = 13 * 13 from rfl, sumN_rows _ 13 13]
    refine sumN_ext _ fun a ha => sumN_ext _ fun b hb => ?_
    have z := (vR a b ha hb).1
    rw [Nat.zero_add, show 13 * a + b = a * 13 + b by omega] at z
    rw [z]
    congr 1
    have y := xV_neg (lt a b)
    by_cases q : rm a b = 0
    · rw [decide_eq_false (y.mpr q), decide_eq_false (not_not_intro q)]
    · rw [decide_eq_true (Decidable.byContradiction fun w => q (y.mp w)), decide_eq_true q]
  have e2 : filR n rm = sumN (fun a => sumN (fun b => bI (decide (rm a b ≠ 0))) n) n := by
    unfold filR
    rw [sumN_rows _ n n]
    refine sumN_ext _ fun a ha => sumN_ext _ fun b hb => ?_
    have d1 : (a * n + b) / n = a := by rw [Nat.mul_comm, Nat.mul_add_div h0, Nat.div_eq_of_lt hb, Nat.add_zero]
    have d2 : (a * n + b) % n = b := by rw [Nat.mul_comm, Nat.mul_add_mod, Nat.mod_eq_of_lt hb]
    rw [d1, d2]
  rw [e1, e2]
  have z0 : ∀ a b, n ≤ a ∨ n ≤ b → bI (decide (rm a b ≠ 0)) = 0 := fun a b h => by rw [decide_eq_false (not_not_intro (k9 a b h))]; rfl
  rw [sum13 hn (fun a ha => sumN_zero 13 (fun b _ => z0 a b (Or.inl ha)))]
  exact sumN_ext _ fun a _ => sum13 hn (fun b hb => z0 a b (Or.inr hb))
