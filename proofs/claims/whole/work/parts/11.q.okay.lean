theorem ok_rf {σ : Sg} (ok : okSg σ) (k : Nat) : okSg (rfG σ k) := ⟨ok.1, ok.2.1, ok.2.2.1, ok.2.2.2.1, ok.2.2.2.2.1, by show (List.set _ _ _).length = 7; rw [List.length_set]; exact ok.2.2.2.2.2⟩
theorem ok_rfS {σ : Sg} (ok : okSg σ) (no : Int32) : okSg (rfS σ no).2 := ok_rf ok _
theorem ok_rfLs {σ : Sg} (ok : okSg σ) (l : Int32) : okSg (rfLs σ l).2 := by unfold rfLs; split; exact ok; exact ok_rfS ok _
theorem ok_rfL {σ : Sg} (ok : okSg σ) (k : Nat) : okSg (rfL σ k).2 := ok_rf ok _
/-- no deeds, another core -/
theorem ok_new {σ : Sg} (ok : okSg σ) {c : Cr} (hc : okCr c) : okSg (c, σ.2.1, σ.2.2.1, [], σ.2.2.2.2) := ⟨hc, ok.2.1, ok.2.2.1, ⟨Nat.zero_le _, fun e he => by cases he⟩, ok.2.2.2.2⟩
theorem okC_cod {n a b : Nat} (ha : a ≤ n) (hb : b ≤ n) (h : a ≠ b) (hn : n ≤ 13) : okC n (cod a b) := by
  right
  unfold cod
  have e1 : (min a b * 14 + max a b) / 14 = min a b := by omega
  have e2 : (min a b * 14 + max a b) % 14 = max a b := by omega
  rw [e1, e2]
  omega
theorem okCr.h {c : Cr} (h : okCr c) {c2 : Cr} (e1 : c2.1 = c.1) (e2 : c2.2.1 ≤ c.2.1) (h3 : ∀ k, k < c2.2.1 → okPr c.1 (c2.2.2.1 k)) (h4 : c2.2.2.2.1 ≤ 6) (h5 : ∀ i, i < c2.2.2.2.1 → (c2.2.2.2.2.1 i).1 ≤ 5 ∧ (c2.2.2.2.2.1 i).2 ≤ 12) (h6 : ∀ a b, a < c.1 → b < c.1 → okC c.1 (c2.2.2.2.2.2 a b)) (h7 : ∀ a b, c.1 ≤ a ∨ c.1 ≤ b → c2.2.2.2.2.2 a b = 0) : okCr c2 := by
  obtain ⟨k1, k2, k3, k4, -⟩ := h
  unfold okCr
  rw [e1]
  exact ⟨k1, k2, k3, by omega, h3, h4, h5, h6, h7⟩
theorem ok_keep {σ : Sg} (ok : okSg σ) {f : Nat → Pr} {rm : Nat → Nat → Nat} (hf : ∀ k, k < σ.1.2.1 → okPr σ.1.1 (f k)) (hr : ∀ a b, a < σ.1.1 → b < σ.1.1 → okC σ.1.1 (rm a b)) (hz : ∀ a b, σ.1.1 ≤ a ∨ σ.1.1 ≤ b → rm a b = 0) : okSg ((σ.1.1, σ.1.2.1, f, σ.1.2.2.2.1, σ.1.2.2.2.2.1, rm), σ.2.1, σ.2.2.1, (σ.1.2.2.1, σ.1.2.2.2.2.2) :: σ.2.2.2.1.take 11, σ.2.2.2.2) := by
  obtain ⟨k1, k2, k3, k4, k5, k6, k7, k8, k9⟩ := id ok.1
  refine ⟨⟨k1, k2, k3, k4, hf, k6, k7, hr, hz⟩, ok.2.1, ok.2.2.1, ⟨?_, fun e he => ?_⟩, ok.2.2.2.2⟩
  · show ((σ.1.2.2.1, σ.1.2.2.2.2.2) :: σ.2.2.2.1.take 11).length ≤ 12
    rw [List.length_cons, List.length_take]; omega
  · have he : e ∈ (σ.1.2.2.1, σ.1.2.2.2.2.2) :: σ.2.2.2.1.take 11 := he
    rcases List.mem_cons.mp he with q | q
    · subst q; exact ⟨k5, k8, k9⟩
    · exact ok.2.2.2.1.2 e (List.mem_of_mem_take q)
theorem ok_letter {σ : Sg} (ok : okSg σ) (x : Int32) : okSg (oLetter σ x).2 := by
  unfold oLetter
  split
  · next h =>
    split
    · exact ok_rfS ok _
    · next h2 =>
      obtain ⟨k, hk, rfl⟩ := nn_of h
      have h3 : ¬ 255 < k := fun z => h2 (Or.inl ((nI_ltI (by omega) hk).mpr z))
      have h4 : ¬ 72 ≤ σ.2.1.1 := fun z => h2 (Or.inr z)
      refine ⟨ok.1, ⟨by show σ.2.1.1 + 1 ≤ 72; omega, fun i hi => ?_⟩, ok.2.2⟩
      show (σ.2.1.2.set σ.2.1.1 (nI k).toNatClampNeg).getD i 0 < 256
      have hi : i < σ.2.1.1 + 1 := hi
      rw [nI_clamp hk]
      by_cases q : σ.2.1.1 = i
      · by_cases l : i < σ.2.1.2.length
        · rw [← q, getD_set_eq (by omega)]; omega
        · rw [List.getD_eq_getElem?_getD, List.getElem?_eq_none (by rw [List.length_set]; omega)]; show 0 < 256; omega
      · rw [getD_set_ne q]; exact ok.2.1.2 i (by omega)
  · exact ok_rfS ok _
theorem okCr_size {x : Nat} (h : 3 ≤ x ∧ x ≤ 13 ∧ x % 2 = 1) (f : Nat → Pr) (tu : Nat → Nat × Nat) : okCr (x, 0, f, 0, tu, fun _ _ => 0) := ⟨h.1, h.2.1, h.2.2, Nat.zero_le _, fun k hk => absurd hk (Nat.not_lt_zero k), Nat.zero_le _, fun k hk => absurd hk (Nat.not_lt_zero k), fun _ _ _ _ => Or.inl rfl, fun _ _ _ => rfl⟩
theorem ok_size {σ : Sg} (ok : okSg σ) (x : Int32) : okSg (oSize σ x).2 := by
  unfold oSize
  split
  · next h =>
    obtain ⟨k, hk, rfl⟩ := nn_of (rSize_nn h)
    show okSg (((nI k).toNatClampNeg, 0, σ.1.2.2.1, 0, σ.1.2.2.2.2.1, fun _ _ => 0), σ.2.1, σ.2.2.1, [], σ.2.2.2.2)
    rw [nI_clamp hk]
    exact ok_new ok (okCr_size (rSize_in hk h) _ _)
  · exact ok_rfS ok _
theorem ok_pair {σ : Sg} (ok : okSg σ) (x y : Int32) : okSg (oPair σ x y).2 := by
  obtain ⟨k1, k2, k3, k4, k5, k6⟩ := id ok.1
  unfold oPair
  split
  · next h =>
    obtain ⟨a, ha, rfl⟩ := nn_of (rPair_nn h).1
    obtain ⟨b, hb, rfl⟩ := nn_of (rPair_nn h).2
    have z := rPair_in (by omega) ha hb h
    show okSg ((σ.1.1, σ.1.2.1 + 1, upF σ.1.2.2.1 σ.1.2.1 ((nI a).toNatClampNeg, (nI b).toNatClampNeg, 0), σ.1.2.2.2), σ.2.1, σ.2.2.1, [], σ.2.2.2.2)
    rw [nI_clamp ha, nI_clamp hb]
    exact ok_new ok ⟨k1, k2, k3, by show σ.1.2.1 + 1 ≤ (σ.1.1 - 1) / 2; omega, okPr_upF (fun i hi hq => k5 i (by have y : i < σ.1.2.1 + 1 := hi; omega)) ⟨z.1, z.2.1, z.2.2.1, z.2.2.2.1, z.2.2.2.2.2, show 0 < σ.1.1 by omega⟩, k6⟩
  · exact ok_rfS ok _
theorem ok_drop {σ : Sg} (ok : okSg σ) : okSg (oDrop σ).2 := by
  obtain ⟨k1, k2, k3, k4, k5, k6⟩ := id ok.1
  unfold oDrop
  split
  · exact ok_rfS ok _
  · exact ok_new ok ⟨k1, k2, k3, by show σ.1.2.1 - 1 ≤ (σ.1.1 - 1) / 2; omega, fun k hk => k5 k (by have y : k < σ.1.2.1 - 1 := hk; omega), k6⟩
theorem ok_adder {σ : Sg} (ok : okSg σ) (x y : Int32) : okSg (oAdder σ x y).2 := by
  obtain ⟨k1, k2, k3, k4, k5, k6, k7, k8, k9⟩ := id ok.1
  unfold oAdder
  split
  · next h =>
    obtain ⟨a, ha, rfl⟩ := nn_of (rAdder_nn h).1
    obtain ⟨b, hb, rfl⟩ := nn_of (rAdder_nn h).2
    have z := rAdder_in (by omega) (by omega) ha hb h
    show okSg ((σ.1.1, σ.1.2.1, upF σ.1.2.2.1 (nI a).toNatClampNeg ((σ.1.2.2.1 (nI a).toNatClampNeg).1, (σ.1.2.2.1 (nI a).toNatClampNeg).2.1, (nI b).toNatClampNeg), σ.1.2.2.2), σ.2.1, σ.2.2.1, (σ.1.2.2.1, σ.1.2.2.2.2.2) :: σ.2.2.2.1.take 11, σ.2.2.2.2)
    rw [nI_clamp ha, nI_clamp hb]
    obtain ⟨y1, y2, y3, y4, y5, -⟩ := k5 a z.1
    exact ok_keep ok (okPr_upF (fun i hi _ => k5 i hi) ⟨y1, y2, y3, y4, y5, z.2⟩) k8 k9
  · exact ok_rfS ok _
theorem ok_of {σ : Sg} (ok : okSg σ) (x y : Int32) : okSg (oOf σ x y).2 := by
  unfold oOf; split
  · split
    · exact ok_rfS ok _
    · exact ok
  · exact ok_rfS ok _
theorem ok_is {σ : Sg} (ok : okSg σ) (x : Int32) : okSg (oIs σ x).2 := by
  unfold oIs; split
  · exact ok_rfS ok _
  · exact ok
theorem ok_right {σ : Sg} (ok : okSg σ) (x : Int32) : okSg (oRight σ x).2 := by
  unfold oRight; split
  · split
    · split
      · exact ok
      · exact ok_rfS ok _
    · exact ok_rfS ok _
  · exact ok_rfS ok _
theorem ok_book {σ : Sg} (ok : okSg σ) : okSg (oBook σ).2 := by
  obtain ⟨k1, k2, k3, k4, k5, k6⟩ := id ok.1
  unfold oBook
  split
  · refine ok_new ok ⟨k1, k2, k3, Nat.le_refl _, fun k hk => ?_, k6⟩
    show okPr σ.1.1 (bkA1 σ.1.1 k)
    have hk : k < (σ.1.1 - 1) / 2 := hk
    unfold bkA1
    rcases e : EA σ.1.1 (qF (fB σ.1.1)) (qS (fB σ.1.1)) ((σ.1.1 - 1) / 2) [] with _ | ⟨a, t⟩
    · exact ⟨by show 1 ≤ k + 1; omega, by show k + 1 < _; omega, by show 1 ≤ _ - (k + 1); omega, by show _ - (k + 1) < _; omega, by show k + 1 ≠ σ.1.1 - (k + 1); omega, by show 0 < _; omega⟩
    · have z := EA_mem _ _ (show a ∈ EA σ.1.1 (qF (fB σ.1.1)) (qS (fB σ.1.1)) ((σ.1.1 - 1) / 2) [] by rw [e]; exact List.mem_cons_self)
      have l : k < a.length := by rw [z.1, List.length_nil]; omega
      have y := z.2 (a[k]) (List.getElem_mem l)
      have g : a.getD k 0 = a[k] := by rw [List.getD_eq_getElem?_getD, List.getElem?_eq_getElem l]; rfl
      refine ⟨by show 1 ≤ k + 1; omega, by show k + 1 < _; omega, by show 1 ≤ _ - (k + 1); omega, by show _ - (k + 1) < _; omega, by show k + 1 ≠ σ.1.1 - (k + 1); omega, ?_⟩
      show a.getD k 0 < σ.1.1
      rw [g]
      rcases y with y | y
      · cases y
      · exact y.2
  · exact ok_rfS ok _
theorem ok_at {σ : Sg} (ok : okSg σ) (r c w : Int32) : okSg (oAt σ r c w).2 := by
  unfold oAt; split
  · split
    · exact ok_rfS ok _
    · exact ok
  · exact ok_rfS ok _
theorem ok_faults {σ : Sg} (ok : okSg σ) (w k : Int32) : okSg (oFaults σ w k).2 := by
  unfold oFaults; split
  · exact ok_rfS ok _
  · split
    · exact ok
    · split
      · exact ok_rfS ok _
      · exact ok
theorem ok_where {σ : Sg} (ok : okSg σ) (x y : Int32) : okSg (oWhere σ x y).2 := by
  unfold oWhere; split
  · exact ok_rfS ok _
  · split
    · exact ok_rfS ok _
    · split
      · exact ok_rfS ok _
      · exact ok
theorem ok_starters {σ : Sg} (ok : okSg σ) (x y : Int32) : okSg (oStarters σ x y).2 := by
  unfold oStarters; split
  · split
    · split
      · exact ok_rfS ok _
      · exact ok
    · exact ok_rfS ok _
  · exact ok_rfS ok _
theorem ok_strong {σ : Sg} (ok : okSg σ) (x : Int32) : okSg (oStrong σ x).2 := by
  unfold oStrong; split
  · exact ok_rfS ok _
  · split
    · exact ok
    · exact ok_rfS ok _
theorem ok_adders {σ : Sg} (ok : okSg σ) (x y : Int32) : okSg (oAdders σ x y).2 := by
  unfold oAdders; split
  · split
    · split
      · exact ok_rfS ok _
      · exact ok
    · exact ok_rfS ok _
  · exact ok_rfS ok _
theorem ok_odds {σ : Sg} (ok : okSg σ) (x : Int32) : okSg (oOdds σ x).2 := by
  unfold oOdds; split
  · exact ok_rfL ok _
  · split
    · exact ok
    · exact ok_rfL ok _
theorem ok_lots {σ : Sg} (ok : okSg σ) (x z y : Int32) : okSg (oLots σ x z y).2 := by
  unfold oLots; split
  · split
    · split
      · exact ok_rfS ok _
      · split
        · exact ok
        · exact ok_rfS ok _
    · exact ok_rfS ok _
  · exact ok_rfS ok _
theorem ok_turn {σ : Sg} (ok : okSg σ) (x y : Int32) : okSg (oTurn σ x y).2 := by
  obtain ⟨k1, k2, k3, k4, k5, k6, k7, k8⟩ := id ok.1
  unfold oTurn
  split
  · next h =>
    obtain ⟨a, ha, rfl⟩ := nn_of (rTurn_nn h).1
    obtain ⟨b, hb, rfl⟩ := nn_of (rTurn_nn h).2
    have z := rTurn_in ha hb h
    show okSg ((σ.1.1, σ.1.2.1, σ.1.2.2.1, σ.1.2.2.2.1 + 1, upT σ.1.2.2.2.2.1 σ.1.2.2.2.1 ((nI a).toNatClampNeg, (nI b).toNatClampNeg), σ.1.2.2.2.2.2), σ.2)
    rw [nI_clamp ha, nI_clamp hb]
    refine ⟨⟨k1, k2, k3, k4, k5, by show σ.1.2.2.2.1 + 1 ≤ 6; omega, fun i hi => ?_, k8⟩, ok.2⟩
    show (upT σ.1.2.2.2.2.1 σ.1.2.2.2.1 (a, b) i).1 ≤ 5 ∧ (upT σ.1.2.2.2.2.1 σ.1.2.2.2.1 (a, b) i).2 ≤ 12
    by_cases e : i = σ.1.2.2.2.1
    · subst e; rw [upT_eq]; exact ⟨z.1, z.2.1⟩
    · rw [upT_ne e]; exact k7 i (by have y : i < σ.1.2.2.2.1 + 1 := hi; omega)
  · exact ok_rfS ok _
theorem ok_still {σ : Sg} (ok : okSg σ) : okSg (oStill σ).2 := by
  obtain ⟨k1, k2, k3, k4, k5, k6, k7, k8⟩ := id ok.1
  exact ⟨⟨k1, k2, k3, k4, k5, Nat.zero_le _, fun i hi => absurd hi (Nat.not_lt_zero i), k8⟩, ok.2⟩
theorem ok_turned {σ : Sg} (ok : okSg σ) (x y : Int32) : okSg (oTurned σ x y).2 := by
  unfold oTurned; split
  · split
    · exact ok_rfS ok _
    · exact ok
  · exact ok_rfS ok _
theorem ok_turns {σ : Sg} (ok : okSg σ) : okSg (oTurns σ).2 := by
  obtain ⟨k1, k2, k3, k4, k5, k6, k7, k8, k9⟩ := id ok.1
  unfold oTurns
  split
  · next h =>
    have z := of_decide_eq_true h
    have b := tAl_bf ok
    exact ok_keep ok (fun k hk => ⟨Nat.pos_of_ne_zero (z k hk).1, (b k hk).1, Nat.pos_of_ne_zero (z k hk).2.1, (b k hk).2.1, (z k hk).2.2, (b k hk).2.2⟩) k8 k9
  · exact ok_rfS ok _
theorem ok_undo {σ : Sg} (ok : okSg σ) : okSg (oUndo σ).2 := by
  obtain ⟨k1, k2, k3, k4, k5, k6, k7, k8, k9⟩ := id ok.1
  unfold oUndo
  split
  · exact ok_rfS ok _
  · next e t h =>
    have z := ok.2.2.2.1
    rw [h] at z
    obtain ⟨z1, z2⟩ := z
    obtain ⟨y1, y2, y3⟩ := z2 e List.mem_cons_self
    exact ⟨⟨k1, k2, k3, k4, y1, k6, k7, y2, y3⟩, ok.2.1, ok.2.2.1, ⟨by rw [List.length_cons] at z1; show t.length ≤ 12; omega, fun e' h' => z2 e' (List.mem_cons_of_mem _ h')⟩, ok.2.2.2.2⟩
theorem ok_image {σ : Sg} (ok : okSg σ) : okSg (oImage σ).2 := ⟨ok.1, ok.2.1, ok.2.2.1, ok.2.2.2.1, fun c3 h => by have e := Option.some.inj h; rw [← e]; exact ok.1, ok.2.2.2.2.2⟩
theorem ok_on {σ : Sg} (ok : okSg σ) : okSg (oOn σ).2 := by
  unfold oOn
  split
  · exact ok_rfS ok _
  · next c2 h => exact ok_new ok (ok.2.2.2.2.1 c2 h)
theorem tRun_ok {W : List Nat} {am : Nat} : ∀ j i q (c : Cr), okCr c → wfT W am i → okCr (tRun W am j i q c).2.2
  | 0, _, _, _, h, _ => h
  | j + 1, i, q, c, h, w => by
    by_cases z : am ≤ i
    · rw [tRun_e z]; exact h
    · have s := wfT_stm w (by omega)
      rcases e : tStep W i c with _ | c2
      · rw [tRun_n (by omega) e]; exact h
      · rw [tRun_s (by omega) e]; exact tRun_ok j _ _ c2 (tStep_ok s.1 h e) s.2
theorem ok_ltZ {σ : Sg} (ok : okSg σ) : okSg (ltZ σ) := ⟨ok.1, ⟨Nat.zero_le _, fun i hi => absurd hi (Nat.not_lt_zero i)⟩, ok.2.2⟩
theorem ok_text {σ : Sg} (ok : okSg σ) : okSg (oText σ).2 := by
  unfold oText
  split
  · exact ok_ltZ ok
  · next e =>
    split
    · exact ok_ltZ ok
    · exact ok_new (ok_ltZ ok) (tRun_ok _ _ _ _ ok.1 ⟨Nat.zero_le _, e⟩)
theorem ok_cell {σ : Sg} (ok : okSg σ) (r c x y : Int32) : okSg (oCell σ r c x y).2 := by
  obtain ⟨k1, k2, k3, k4, k5, k6, k7, k8, k9⟩ := id ok.1
  unfold oCell
  split
  · next h =>
    obtain ⟨⟨g1, g2, g3, g4⟩, g0⟩ := rCell_in h
    obtain ⟨r1, hr, rfl⟩ := nn_of g1
    obtain ⟨c1, hc, rfl⟩ := nn_of g3
    rw [nI_ltI hr (by omega)] at g2
    rw [nI_ltI hc (by omega)] at g4
    have hv : okC σ.1.1 (vC x y) := by
      unfold vC
      by_cases hx : 0 ≤ x
      · rw [if_pos hx]
        obtain ⟨h1, h2, h3, h4⟩ := g0 hx
        obtain ⟨a, ha, rfl⟩ := nn_of hx
        obtain ⟨b, hb, rfl⟩ := nn_of h1
        rw [nI_ltI (by omega) ha] at h2
        rw [nI_ltI (by omega) hb] at h3
        rw [nI_clamp ha, nI_clamp hb]
        exact okC_cod (by omega) (by omega) (fun e => h4 (by rw [e])) k2
      · rw [if_neg hx]; exact Or.inl rfl
    show okSg ((σ.1.1, σ.1.2.1, σ.1.2.2.1, σ.1.2.2.2.1, σ.1.2.2.2.2.1, u2 σ.1.2.2.2.2.2 (nI r1).toNatClampNeg (nI c1).toNatClampNeg (vC x y)), σ.2.1, σ.2.2.1, (σ.1.2.2.1, σ.1.2.2.2.2.2) :: σ.2.2.2.1.take 11, σ.2.2.2.2)
    rw [nI_clamp hr, nI_clamp hc]
    refine ok_keep ok k5 (fun a b ha hb => ?_) (fun a b hab => ?_)
    · by_cases q : a = r1 ∧ b = c1
      · rw [q.1, q.2, u2_eq]; exact hv
      · rw [u2_ne q]; exact k8 a b ha hb
    · rw [u2_ne (fun q => by omega)]; exact k9 a b hab
  · exact ok_rfS ok _
theorem layR_ok {n : Nat} {rm : Nat → Nat → Nat} (h : (∀ a b, a < n → b < n → okC n (rm a b)) ∧ (∀ a b, n ≤ a ∨ n ≤ b → rm a b = 0)) {a b v : Nat} (ha : a < n) (hb : b < n) (hv : okC n v) : (∀ x y, x < n → y < n → okC n (layR rm a b v x y)) ∧ (∀ x y, n ≤ x ∨ n ≤ y → layR rm a b v x y = 0) := by
  unfold layR
  split
  · refine ⟨fun x y hx hy => ?_, fun x y hxy => ?_⟩
    · by_cases q : x = a ∧ y = b
      · rw [q.1, q.2, u2_eq]; exact hv
      · rw [u2_ne q]; exact h.1 x y hx hy
    · rw [u2_ne (fun q => by omega)]; exact h.2 x y hxy
  · exact h
theorem bP_ok {n i : Nat} {f : Nat → Pr} (hi : i < n) (hn : n ≤ 13) {s : (Nat → Nat → Nat) × Nat} (h : (∀ a b, a < n → b < n → okC n (s.1 a b)) ∧ (∀ a b, n ≤ a ∨ n ≤ b → s.1 a b = 0)) : ∀ m, (∀ k, k < m → okPr n (f k)) → (∀ a b, a < n → b < n → okC n ((bP n f i s m).1 a b)) ∧ (∀ a b, n ≤ a ∨ n ≤ b → (bP n f i s m).1 a b = 0)
  | 0, _ => h
  | m + 1, hf => by
    obtain ⟨y1, y2, y3, y4, y5, y6⟩ := hf m (by omega)
    refine layR_ok (bP_ok hi hn h m (fun k hk => hf k (by omega))) hi (Nat.mod_lt _ (by omega)) (okC_cod (Nat.le_of_lt (Nat.mod_lt _ (by omega))) (Nat.le_of_lt (Nat.mod_lt _ (by omega))) (fun e => ?_) hn)
    have z1 : ∀ a, a < n → (a + i) % n = if a + i < n then a + i else a + i - n := fun a ha => by
      split
      · exact Nat.mod_eq_of_lt (by omega)
      · rw [Nat.mod_eq_sub_mod (by omega), Nat.mod_eq_of_lt (by omega)]
    rw [z1 _ y2, z1 _ y4] at e
    split at e <;> split at e <;> omega
theorem bR_ok {n m : Nat} {f : Nat → Pr} (hn : n ≤ 13) (hf : ∀ k, k < m → okPr n (f k)) : ∀ i, i ≤ n → (∀ a b, a < n → b < n → okC n ((bR n m f i).1 a b)) ∧ (∀ a b, n ≤ a ∨ n ≤ b → (bR n m f i).1 a b = 0)
  | 0, _ => ⟨fun _ _ _ _ => Or.inl rfl, fun _ _ _ => rfl⟩
  | i + 1, hi => bP_ok (by omega) hn (layR_ok (bR_ok hn hf i (by omega)) (by omega) (by omega) (okC_cod (Nat.le_refl _) (by omega) (by omega) hn)) m hf
theorem ok_build {σ : Sg} (ok : okSg σ) : okSg (oBuild σ).2 := by
  obtain ⟨k1, k2, k3, k4, k5, k6, k7, k8, k9⟩ := id ok.1
  unfold oBuild
  split
  · exact ok_new ok ⟨k1, k2, k3, k4, k5, k6, k7, bR_ok k2 k5 _ (Nat.le_refl _)⟩
  · exact ok_rfS ok _
theorem ok_lnG {σ : Sg} (ok : okSg σ) {LR : Nat → List Int32} {LN : List Int32} (h : ∀ y, y < 3 → LN.getD y 0 = -1 ∨ ∃ q, q ≤ 40 ∧ LN.getD y 0 = nI q) : okSg (lnG σ LR LN) := ⟨ok.1, ok.2.1, h, ok.2.2.2⟩
theorem ok_list {σ : Sg} (ok : okSg σ) (l q : Int32) : okSg (oList σ l q).2 := by
  unfold oList
  split
  · next h =>
    split
    · next h2 =>
      split
      · next h3 =>
        refine ok_lnG ok (fun y hy => ?_)
        obtain ⟨a, ha, rfl⟩ := nn_of h.1
        obtain ⟨b, hb, rfl⟩ := nn_of h3
        rw [nI_clamp ha]
        by_cases e : a = y
        · by_cases l : a < σ.2.2.1.2.length
          · rw [← e, setI_eq l]; exact Or.inr ⟨b, (nI_leI hb (by omega)).mp h2, rfl⟩
          · rw [List.getD_eq_getElem?_getD, List.getElem?_eq_none (by rw [List.length_set]; omega)]; exact Or.inr ⟨0, by omega, rfl⟩
        · rw [setI_ne e]; exact ok.2.2.1 y hy
      · exact ok
    · exact ok_rfS ok _
  · exact ok_rfS ok _
theorem ok_put {σ : Sg} (ok : okSg σ) (l i v : Int32) : okSg (oPut σ l i v).2 := by
  unfold oPut; split
  · split
    · exact ok_lnG ok ok.2.2.1
    · exact ok
  · exact ok_rfLs ok _
theorem ok_look {σ : Sg} (ok : okSg σ) (l i : Int32) : okSg (oLook σ l i).2 := by
  unfold oLook; split
  · exact ok
  · exact ok_rfLs ok _
theorem ok_lays {σ : Sg} (ok : okSg σ) (l i : Int32) : okSg (oLays σ l i).2 := by
  unfold oLays; split
  · split
    · exact ok_lnG ok ok.2.2.1
    · exact ok
  · exact ok_rfLs ok _
theorem ok_judge {σ : Sg} (ok : okSg σ) (l : Int32) : okSg (oJudge σ l).2 := by
  unfold oJudge; split
  · exact ok
  · exact ok_rfLs ok _
theorem ok_sizes {σ : Sg} (ok : okSg σ) (l : Int32) : okSg (oSizes σ l).2 := by
  unfold oSizes; split
  · split
    · exact ok
    · exact ok_rfS ok _
  · exact ok_rfLs ok _
