/-- the limit of a search: none, or up to the i-th -/
def limOf (w : Int32) : Option Nat := if w < 0 then none else some w.toNatClampNeg
def hwB (w : Int32) (c : Nat) : Bool := decide (0 ≤ w ∧ w < nI c)
theorem hw_none {w : Int32} {c : Nat} (h : limOf w = none) : hwB w c = false := by
  unfold limOf at h
  by_cases q : w < 0
  · exact decide_eq_false (fun z => absurd z.1 (Int32.not_le.mpr q))
  · rw [if_neg q] at h; cases h
theorem hw_some {w : Int32} {c i : Nat} (hc : c < 2 ^ 31) (h : limOf w = some i) : hwB w c = decide (i < c) := by
  unfold limOf at h
  by_cases q : w < 0
  · rw [if_pos q] at h; cases h
  · rw [if_neg q] at h
    cases h
    obtain ⟨j, hj, rfl⟩ := nI_of q
    rw [nI_clamp hj]
    unfold hwB
    exact decide_eq_decide.mpr ⟨fun z => (nI_ltI hj hc).mp z.2, fun z => ⟨nI_pos' hj, (nI_ltI hj hc).mpr z⟩⟩
/-- what a search over the leaves L, begun with c found, has done: all, or stopped at the one that is wanted -/
def Pst {α : Type} (lim : Option Nat) (L : List α) (c c' : Nat) (mt : α → Prop) : Prop := match lim with
  | none => c' = c + L.length
  | some i => (i < c + L.length → c' = i + 1 ∧ ∃ a, L[i - c]? = some a ∧ mt a) ∧ (¬ i < c + L.length → c' = c + L.length)
def nd (lim : Option Nat) (c : Nat) : Prop := ∀ i, lim = some i → c ≤ i
theorem Pst_nil {α : Type} {lim : Option Nat} {c : Nat} {mt : α → Prop} (h : nd lim c) : Pst lim [] c c mt := by
  cases lim with
  | none => rfl
  | some i => exact ⟨fun z => absurd z (by have := h i rfl; show ¬ i < c + 0; omega), fun _ => rfl⟩
theorem Pst_one {α : Type} {lim : Option Nat} {c : Nat} {mt : α → Prop} {a : α} (h : nd lim c) (hm : mt a) : Pst lim [a] c (c + 1) mt := by
  cases lim with
  | none => rfl
  | some i =>
    have hi := h i rfl
    refine ⟨fun z => ?_, fun _ => rfl⟩
    have z1 : i < c + 1 := z
    have e : i = c := by omega
    subst e
    exact ⟨rfl, a, by rw [Nat.sub_self]; rfl, hm⟩
theorem Pst_len {α : Type} {lim : Option Nat} {L : List α} {c c' : Nat} {mt : α → Prop} (P : Pst lim L c c' mt) (h : nd lim c') : c' = c + L.length := by
  cases lim with
  | none => exact P
  | some i =>
    by_cases z : i < c + L.length
    · have := (P.1 z).1
      have := h i rfl
      omega
    · exact P.2 z
theorem Pst_le {α : Type} {lim : Option Nat} {L : List α} {c c' : Nat} {mt : α → Prop} (P : Pst lim L c c' mt) : c' ≤ c + L.length := by
  cases lim with
  | none => exact Nat.le_of_eq P
  | some i =>
    by_cases z : i < c + L.length
    · have := (P.1 z).1; omega
    · exact Nat.le_of_eq (P.2 z)
theorem Pst_app {α : Type} {lim : Option Nat} {L1 L2 : List α} {c c1 c2 : Nat} {m1 m2 : α → Prop} (P1 : Pst lim L1 c c1 m1) (h : nd lim c1) (P2 : Pst lim L2 c1 c2 m2) : Pst lim (L1 ++ L2) c c2 m2 := by
  have e := Pst_len P1 h
  subst e
  cases lim with
  | none =>
    show c2 = c + (L1 ++ L2).length
    rw [List.length_append, ← Nat.add_assoc]
    exact P2
  | some i =>
    have hi := h i rfl
    refine ⟨fun z => ?_, fun z => ?_⟩
    · rw [List.length_append] at z
      obtain ⟨a1, a, a2, a3⟩ := P2.1 (by omega)
      refine ⟨a1, a, ?_, a3⟩
      rw [List.getElem?_append_right (by omega), show i - c - L1.length = i - (c + L1.length) by omega]
      exact a2
    · rw [List.length_append] at z ⊢
      rw [P2.2 (by omega)]
      omega
theorem Pst_done {α : Type} {i : Nat} {L1 L2 : List α} {c c1 : Nat} {m1 : α → Prop} (hc : c ≤ i) (P1 : Pst (some i) L1 c c1 m1) (h : i < c1) : Pst (some i) (L1 ++ L2) c c1 m1 := by
  have hl : i < c + L1.length := by
    by_cases z : i < c + L1.length
    · exact z
    · have := P1.2 z; omega
  obtain ⟨a1, a, a2, a3⟩ := P1.1 hl
  refine ⟨fun _ => ⟨a1, a, ?_, a3⟩, fun z => absurd (by rw [List.length_append]; omega) z⟩
  rw [List.getElem?_append_left (by omega)]
  exact a2
theorem Pst_mono {α : Type} {lim : Option Nat} {L : List α} {c c' : Nat} {m1 m2 : α → Prop} (P : Pst lim L c c' m1) (h : ∀ a, m1 a → m2 a) : Pst lim L c c' m2 := by
  cases lim with
  | none => exact P
  | some i => exact ⟨fun z => by obtain ⟨a1, a, a2, a3⟩ := P.1 z; exact ⟨a1, a, a2, h a a3⟩, P.2⟩
abbrev Pp : Type := Nat × Nat
def usd (acc : List Pp) (y : Nat) : Bool := acc.any (fun q => q.1 == y || q.2 == y)
def dus (n : Nat) (acc : List Pp) (t : Nat) : Bool := acc.any (fun q => q.2 - q.1 == t || n - (q.2 - q.1) == t)
def okA (n : Nat) (acc : List Pp) (x y : Nat) : Bool := !usd acc y && !dus n acc (y - x)
def lfG (acc : List Pp) : Nat → Nat → Nat
  | 0, x => x
  | j + 1, x => if usd acc x = true then lfG acc j (x + 1) else x
/-- the least number from 1 on that no pair has -/
def lfA (n : Nat) (acc : List Pp) : Nat := lfG acc (n - 1) 1
def EY {β : Type} (rec : Nat → List β) (ok : Nat → Bool) : Nat → Nat → List β
  | 0, _ => []
  | j + 1, y => (if ok y = true then rec y else []) ++ EY rec ok j (y + 1)
theorem EY_t {β : Type} {rec : Nat → List β} {ok : Nat → Bool} {j y : Nat} (h : ok y = true) : EY rec ok (j + 1) y = rec y ++ EY rec ok j (y + 1) := by
  show (if ok y = true then rec y else []) ++ _ = _
  rw [if_pos h]
theorem EY_f {β : Type} {rec : Nat → List β} {ok : Nat → Bool} {j y : Nat} (h : ¬ ok y = true) : EY rec ok (j + 1) y = EY rec ok j (y + 1) := by
  show (if ok y = true then rec y else []) ++ _ = _
  rw [if_neg h, List.nil_append]
theorem EY_len {β : Type} {rec : Nat → List β} {ok : Nat → Bool} {B : Nat} (h : ∀ y, (rec y).length ≤ B) : ∀ j y, (EY rec ok j y).length ≤ j * B
  | 0, _ => by rw [Nat.zero_mul]; exact Nat.le_refl 0
  | j + 1, y => by
    have h1 := EY_len h (ok := ok) j (y + 1)
    have h2 := h y
    rw [Nat.add_mul, Nat.one_mul]
    by_cases q : ok y = true
    · rw [EY_t q, List.length_append]; omega
    · rw [EY_f q]; omega
/-- starters: the rows of d more pairs behind acc -/
def E (n : Nat) : Nat → List Pp → List (List Pp)
  | 0, acc => [acc]
  | d + 1, acc => EY (fun y => E n d (acc ++ [(lfA n acc, y)])) (okA n acc (lfA n acc)) (n - (lfA n acc + 1)) (lfA n acc + 1)
theorem E_len {n : Nat} (hn : n ≤ 13) : ∀ d acc, (E n d acc).length ≤ 13 ^ d
  | 0, _ => Nat.le_refl 1
  | d + 1, acc => by
    have h := EY_len (fun y => E_len hn d (acc ++ [(lfA n acc, y)])) (ok := okA n acc (lfA n acc)) (n - (lfA n acc + 1)) (lfA n acc + 1)
    have h2 : (n - (lfA n acc + 1)) * 13 ^ d ≤ 13 * 13 ^ d := Nat.mul_le_mul_right _ (by omega)
    have h3 : 13 ^ (d + 1) = 13 * 13 ^ d := by rw [Nat.pow_succ, Nat.mul_comm]
    show (EY _ _ _ _).length ≤ _
    omega
/-- arrays that hold the pairs of acc -/
def mtS (F S : List Nat) (acc : List Pp) : Prop := ∀ k, k < acc.length → (F.getD k 0, S.getD k 0) = acc.getD k (0, 0)
def fL (l : List Pp) : List Nat := l.map Prod.fst
def sL (l : List Pp) : List Nat := l.map Prod.snd
def sgB (n : Nat) (l : List Pp) : Bool := stS n l.length (fL l) (sL l)
def skB (n : Nat) (l : List Pp) : Bool := stS n l.length (fL l) (sL l) && skS n l.length (fL l) (sL l)
def cnB {α : Type} (p : α → Bool) : List α → Nat
  | [] => 0
  | a :: l => bI (p a) + cnB p l
theorem cnB_app {α : Type} (p : α → Bool) : ∀ (a b : List α), cnB p (a ++ b) = cnB p a + cnB p b
  | [], _ => (Nat.zero_add _).symm
  | x :: a, b => by
    show bI (p x) + cnB p (a ++ b) = bI (p x) + cnB p a + cnB p b
    rw [cnB_app p a b, Nat.add_assoc]
theorem cnB_le {α : Type} (p : α → Bool) : ∀ (a : List α), cnB p a ≤ a.length
  | [] => Nat.le_refl 0
  | x :: a => by
    have h := cnB_le p a
    have h2 := bI_le (p x)
    show bI (p x) + cnB p a ≤ a.length + 1
    omega
theorem mtS_len {F S : List Nat} {acc : List Pp} (h : mtS F S acc) {k : Nat} (hk : k < acc.length) : F.getD k 0 = (fL acc).getD k 0 ∧ S.getD k 0 = (sL acc).getD k 0 := by
  have e := h k hk
  have e1 : (fL acc).getD k 0 = (acc.getD k (0, 0)).1 := by
    unfold fL
    rw [List.getD_eq_getElem?_getD, List.getD_eq_getElem?_getD, List.getElem?_map]
    cases acc[k]? <;> rfl
  have e2 : (sL acc).getD k 0 = (acc.getD k (0, 0)).2 := by
    unfold sL
    rw [List.getD_eq_getElem?_getD, List.getD_eq_getElem?_getD, List.getElem?_map]
    cases acc[k]? <;> rfl
  rw [e1, e2, ← e]
  exact ⟨rfl, rfl⟩
theorem stS_ext {n m : Nat} {F S F2 S2 : List Nat} (h : ∀ i, i < m → F.getD i 0 = F2.getD i 0 ∧ S.getD i 0 = S2.getD i 0) : stS n m F S = stS n m F2 S2 := by
  unfold stS
  rw [sBits_ext m h]
theorem skS_ext {n m : Nat} {F S F2 S2 : List Nat} (h : ∀ i, i < m → F.getD i 0 = F2.getD i 0 ∧ S.getD i 0 = S2.getD i 0) : skS n m F S = skS n m F2 S2 := by
  unfold skS
  rw [sBits_ext m h]
  exact decide_eq_decide.mpr ⟨fun z k hk => by rw [← (h k hk).1, ← (h k hk).2]; exact z k hk, fun z k hk => by rw [(h k hk).1, (h k hk).2]; exact z k hk⟩
/-- the cells of the Search at 84 (its Pairs at 85 by themselves) -/
def XA (h : List aC) (w : Int32) (c s1 s2 : Nat) : Prop := rd h 84 = some (.inr (5, [.ref 85, .int w, .int (nI c), .int (nI s1), .int (nI s2)]))
theorem XA.mv {h h' : List aC} {w : Int32} {c s1 s2 lo hi : Nat} (H : XA h w c s1 s2) (s : Smo lo hi h h') (hq : 85 ≤ lo ∨ hi ≤ 84) : XA h' w c s1 s2 := by
  unfold XA
  rw [s 84 (by omega)]
  exact H
