theorem rd_at {b r : List aC} {o : aC} {L : Nat} (hL : b.length = L) : rd (b ++ o :: r) L = some o := by
  subst hL; unfold rd; rw [List.getElem?_append_right (Nat.le_refl _), Nat.sub_self]; rfl
theorem wr_at {b r : List aC} {o e : aC} {L : Nat} (hL : b.length = L) : wr (b ++ o :: r) L e = b ++ e :: r := by
  subst hL; unfold wr; rw [List.set_append_right _ _ (Nat.le_refl _), Nat.sub_self]; rfl
theorem rd_k {b l : List aC} {x : aC} {L i : Nat} (hL : b.length = L) (h : l[i]? = some x) : rd (b ++ l) (L + i) = some x := by
  subst hL; unfold rd; rw [List.getElem?_append_right (Nat.le_add_right _ _), Nat.add_sub_cancel_left]; exact h
theorem wr_k {b l : List aC} {e : aC} {L i : Nat} (hL : b.length = L) : wr (b ++ l) (L + i) e = b ++ l.set i e := by
  subst hL; unfold wr; rw [List.set_append_right _ _ (Nat.le_add_right _ _), Nat.add_sub_cancel_left]
theorem len_at {b l : List aC} {L k : Nat} (hL : b.length = L) (h : l.length = k) : (b ++ l).length = L + k := by rw [List.length_append, hL, h]
theorem grow_at {b r cs : List aC} {o : aC} : (b ++ o :: r) ++ cs = b ++ o :: (r ++ cs) := by rw [List.append_assoc]; rfl
abbrev zC (n : Nat) : aC := .inl (List.replicate n 0)
def pairsC (L : Nat) : List aC := [.inr (3, [.ref (L + 1), .ref (L + 2), .ref (L + 3), .int (nI 7), .int (nI 0)]), zC 6, zC 6, zC 6]
def turnsC (L : Nat) : List aC := [.inr (7, [.ref (L + 1), .ref (L + 2), .int (nI 0)]), zC 6, zC 6]
def roomC (L : Nat) : List aC := [.inr (4, [.ref (L + 1), .ref (L + 2), .int (nI 7)]), zC 169, zC 196]
def stateC (L : Nat) : List aC := .inr (6, [.ref (L + 1), .ref (L + 5), .ref (L + 8)]) :: (pairsC (L + 1) ++ turnsC (L + 5) ++ roomC (L + 8))
def lettersC (L : Nat) : List aC := [.inr (1, [.ref (L + 1), .int (nI 0)]), zC 72]
def listsC (L : Nat) : List aC := .inr (2, [.ref (L + 1), .ref (L + 5)]) :: (mnC (L + 1) 3 40 ++ [.inl [-1, -1, -1]])
def histC (L : Nat) : List aC := .inr (0, [.ref (L + 1), .ref (L + 14), .ref (L + 27), .ref (L + 40), .ref (L + 41), .int (nI 0), .int (nI 0)]) :: (mnC (L + 1) 12 6 ++ mnC (L + 14) 12 6 ++ mnC (L + 27) 12 6 ++ [zC 12] ++ [zC 12])
def searchC (L : Nat) : List aC := .inr (5, [.ref (L + 1), .int (-1), .int (nI 0), .int (nI 0), .int (nI 0)]) :: pairsC (L + 1)
def objC (L : Nat) : List aC := .inr (8, [.ref (L + 1), .ref (L + 12), .ref (L + 23), .int (nI 0), .ref (L + 34), .ref (L + 36), .ref (L + 42), .ref (L + 84), .ref (L + 89), .ref (L + 93), .ref (L + 97)]) :: (stateC (L + 1) ++ stateC (L + 12) ++ stateC (L + 23) ++ lettersC (L + 34) ++ listsC (L + 36) ++ histC (L + 42) ++ searchC (L + 84) ++ pairsC (L + 89) ++ pairsC (L + 93) ++ [zC 7])

theorem dvX0 : ∀ j, j < 7 → defaultValue (tyX0 j) = vp_V [.null, .null, .null, .null, .null, .int 0, .int 0] j := by
  intro j hj
  have : j = 0 ∨ j = 1 ∨ j = 2 ∨ j = 3 ∨ j = 4 ∨ j = 5 ∨ j = 6 := by omega
  rcases this with rfl | rfl | rfl | rfl | rfl | rfl | rfl <;> rfl
theorem dcX0 : ∀ v ∈ ([.null, .null, .null, .null, .null, .int 0, .int 0] : List Value), clV 0 v := fun v hv => by
  simp only [List.mem_cons, List.not_mem_nil, or_false] at hv
  rcases hv with rfl | rfl | rfl | rfl | rfl | rfl | rfl <;> trivial

theorem dvX1 : ∀ j, j < 2 → defaultValue (tyX1 j) = vp_V [.null, .int 0] j := by
  intro j hj
  have : j = 0 ∨ j = 1 := by omega
  rcases this with rfl | rfl <;> rfl
theorem dcX1 : ∀ v ∈ ([.null, .int 0] : List Value), clV 0 v := fun v hv => by
  simp only [List.mem_cons, List.not_mem_nil, or_false] at hv
  rcases hv with rfl | rfl <;> trivial

theorem dvX2 : ∀ j, j < 2 → defaultValue (tyX2 j) = vp_V [.null, .null] j := by
  intro j hj
  have : j = 0 ∨ j = 1 := by omega
  rcases this with rfl | rfl <;> rfl
theorem dcX2 : ∀ v ∈ ([.null, .null] : List Value), clV 0 v := fun v hv => by
  simp only [List.mem_cons, List.not_mem_nil, or_false] at hv
  rcases hv with rfl | rfl <;> trivial

theorem dvX3 : ∀ j, j < 5 → defaultValue (tyX3 j) = vp_V [.null, .null, .null, .int 0, .int 0] j := by
  intro j hj
  have : j = 0 ∨ j = 1 ∨ j = 2 ∨ j = 3 ∨ j = 4 := by omega
  rcases this with rfl | rfl | rfl | rfl | rfl <;> rfl
theorem dcX3 : ∀ v ∈ ([.null, .null, .null, .int 0, .int 0] : List Value), clV 0 v := fun v hv => by
  simp only [List.mem_cons, List.not_mem_nil, or_false] at hv
  rcases hv with rfl | rfl | rfl | rfl | rfl <;> trivial

theorem dvX4 : ∀ j, j < 3 → defaultValue (tyX4 j) = vp_V [.null, .null, .int 0] j := by
  intro j hj
  have : j = 0 ∨ j = 1 ∨ j = 2 := by omega
  rcases this with rfl | rfl | rfl <;> rfl
theorem dcX4 : ∀ v ∈ ([.null, .null, .int 0] : List Value), clV 0 v := fun v hv => by
  simp only [List.mem_cons, List.not_mem_nil, or_false] at hv
  rcases hv with rfl | rfl | rfl <;> trivial

theorem dvX5 : ∀ j, j < 5 → defaultValue (tyX5 j) = vp_V [.null, .int 0, .int 0, .int 0, .int 0] j := by
  intro j hj
  have : j = 0 ∨ j = 1 ∨ j = 2 ∨ j = 3 ∨ j = 4 := by omega
  rcases this with rfl | rfl | rfl | rfl | rfl <;> rfl
theorem dcX5 : ∀ v ∈ ([.null, .int 0, .int 0, .int 0, .int 0] : List Value), clV 0 v := fun v hv => by
  simp only [List.mem_cons, List.not_mem_nil, or_false] at hv
  rcases hv with rfl | rfl | rfl | rfl | rfl <;> trivial

theorem dvX6 : ∀ j, j < 3 → defaultValue (tyX6 j) = vp_V [.null, .null, .null] j := by
  intro j hj
  have : j = 0 ∨ j = 1 ∨ j = 2 := by omega
  rcases this with rfl | rfl | rfl <;> rfl
theorem dcX6 : ∀ v ∈ ([.null, .null, .null] : List Value), clV 0 v := fun v hv => by
  simp only [List.mem_cons, List.not_mem_nil, or_false] at hv
  rcases hv with rfl | rfl | rfl <;> trivial

theorem dvX7 : ∀ j, j < 3 → defaultValue (tyX7 j) = vp_V [.null, .null, .int 0] j := by
  intro j hj
  have : j = 0 ∨ j = 1 ∨ j = 2 := by omega
  rcases this with rfl | rfl | rfl <;> rfl
theorem dcX7 : ∀ v ∈ ([.null, .null, .int 0] : List Value), clV 0 v := fun v hv => by
  simp only [List.mem_cons, List.not_mem_nil, or_false] at hv
  rcases hv with rfl | rfl | rfl <;> trivial

theorem dvX8 : ∀ j, j < 11 → defaultValue (tyX8 j) = vp_V [.null, .null, .null, .int 0, .null, .null, .null, .null, .null, .null, .null] j := by
  intro j hj
  have : j = 0 ∨ j = 1 ∨ j = 2 ∨ j = 3 ∨ j = 4 ∨ j = 5 ∨ j = 6 ∨ j = 7 ∨ j = 8 ∨ j = 9 ∨ j = 10 := by omega
  rcases this with rfl | rfl | rfl | rfl | rfl | rfl | rfl | rfl | rfl | rfl | rfl <;> rfl
theorem dcX8 : ∀ v ∈ ([.null, .null, .null, .int 0, .null, .null, .null, .null, .null, .null, .null] : List Value), clV 0 v := fun v hv => by
  simp only [List.mem_cons, List.not_mem_nil, or_false] at hv
  rcases hv with rfl | rfl | rfl | rfl | rfl | rfl | rfl | rfl | rfl | rfl | rfl <;> trivial

theorem dvX9 : ∀ j, j < 35 → defaultValue (tyX9 j) = vp_V [.int 0, .int 0, .null, .null, .null, .int 0, .null, .int 0, .null, .null, .null, .int 0, .int 0, .int 0, .int 0, .null, .null, .null, .int 0, .null, .null, .null, .int 0, .null, .null, .null, .null, .null, .int 0, .int 0, .int 0, .int 0, .null, .null, .null] j := by
  intro j hj
  have : j = 0 ∨ j = 1 ∨ j = 2 ∨ j = 3 ∨ j = 4 ∨ j = 5 ∨ j = 6 ∨ j = 7 ∨ j = 8 ∨ j = 9 ∨ j = 10 ∨ j = 11 ∨ j = 12 ∨ j = 13 ∨ j = 14 ∨ j = 15 ∨ j = 16 ∨ j = 17 ∨ j = 18 ∨ j = 19 ∨ j = 20 ∨ j = 21 ∨ j = 22 ∨ j = 23 ∨ j = 24 ∨ j = 25 ∨ j = 26 ∨ j = 27 ∨ j = 28 ∨ j = 29 ∨ j = 30 ∨ j = 31 ∨ j = 32 ∨ j = 33 ∨ j = 34 := by omega
  rcases this with rfl | rfl | rfl | rfl | rfl | rfl | rfl | rfl | rfl | rfl | rfl | rfl | rfl | rfl | rfl | rfl | rfl | rfl | rfl | rfl | rfl | rfl | rfl | rfl | rfl | rfl | rfl | rfl | rfl | rfl | rfl | rfl | rfl | rfl | rfl <;> rfl
theorem dcX9 : ∀ v ∈ ([.int 0, .int 0, .null, .null, .null, .int 0, .null, .int 0, .null, .null, .null, .int 0, .int 0, .int 0, .int 0, .null, .null, .null, .int 0, .null, .null, .null, .int 0, .null, .null, .null, .null, .null, .int 0, .int 0, .int 0, .int 0, .null, .null, .null] : List Value), clV 0 v := fun v hv => by
  simp only [List.mem_cons, List.not_mem_nil, or_false] at hv
  rcases hv with rfl | rfl | rfl | rfl | rfl | rfl | rfl | rfl | rfl | rfl | rfl | rfl | rfl | rfl | rfl | rfl | rfl | rfl | rfl | rfl | rfl | rfl | rfl | rfl | rfl | rfl | rfl | rfl | rfl | rfl | rfl | rfl | rfl | rfl | rfl <;> trivial

set_option maxRecDepth 100000 in
set_option maxHeartbeats 4000000 in
theorem ec_X3 {b : List aC} (hb : clH b) {L : Nat} (hL : b.length = L) : Ev mX3_init 1 3 18 [.ref L] (b ++ [.inr (3, [.null, .null, .null, .int 0, .int 0])]) (pq none (fun h2 => h2 = b ++ pairsC L ∧ clH h2)) := by
  have hc : clH (b ++ [.inr (3, [.null, .null, .null, .int 0, .int 0])]) := hb.app (fun e he => by rw [List.mem_singleton.mp he]; exact fun v hv => (dcX3 v hv).le (Nat.zero_le _))
  refine Ev.of pX3_init (Nat.le_of_ble_eq_true rfl) ?_
  show G mX3_init (rmD 1 3 18) none _ 0 0 0 [(0, .ref L)] [] (b ++ .inr (3, [.null, .null, .null, .int 0, .int 0]) :: [])
  have hlen : List.length (α := aC) (b ++ .inr (3, [.null, .null, .null, .int 0, .int 0]) :: []) = L + 1 := len_at hL rfl
  refine g_aload_n dX3_init_0 0 rfl ?_
  refine g_objInit dX3_init_1 wmX3_3 (Nat.le_of_ble_eq_true rfl) ⟨Nat.le_of_ble_eq_true rfl, Nat.le_of_ble_eq_true rfl⟩ ?_
  refine g_aload_n dX3_init_4 0 rfl ?_
  refine g_bipush (v := nI 6) dX3_init_5 (by decide +kernel) ?_
  refine g_newa dX3_init_7 (Nat.le_of_ble_eq_true rfl) hc ⟨(show L < _ by rw [hlen]; omega), trivial⟩ ⟨(show L < _ by rw [hlen]; omega), trivial⟩ (Nat.le_of_ble_eq_true rfl) (Nat.le_of_ble_eq_true rfl) (fun hc => ?_)
  rw [hlen]
  rw [grow_at] at hc ⊢
  have hlen : List.length (α := aC) (b ++ .inr (3, [.null, .null, .null, .int 0, .int 0]) :: ([] ++ [zC 6])) = L + 2 := len_at hL rfl
  refine g_putF dX3_init_9 kX3 wfX3_9 (Nat.le_of_ble_eq_true rfl) rfl rfl rfl (fun _ _ => ⟨rfl, rfl⟩) (rd_at hL) (Nat.le_of_ble_eq_true rfl) (fs' := [.ref (L + 1), .null, .null, .int 0, .int 0]) rfl ?_
  have hc := clH_wr (kf := 0) (v := .ref (L + 1)) hc (rd_at hL) (show L + 1 < _ by rw [hlen]; omega)
  rw [wr_at hL] at hc ⊢
  have hc : clH (b ++ .inr (3, [.ref (L + 1), .null, .null, .int 0, .int 0]) :: ([] ++ [zC 6])) := hc
  have hlen : List.length (α := aC) (b ++ .inr (3, [.ref (L + 1), .null, .null, .int 0, .int 0]) :: ([] ++ [zC 6])) = L + 2 := len_at hL rfl
  refine g_aload_n dX3_init_12 0 rfl ?_
  refine g_bipush (v := nI 6) dX3_init_13 (by decide +kernel) ?_
  refine g_newa dX3_init_15 (Nat.le_of_ble_eq_true rfl) hc ⟨(show L < _ by rw [hlen]; omega), trivial⟩ ⟨(show L < _ by rw [hlen]; omega), trivial⟩ (Nat.le_of_ble_eq_true rfl) (Nat.le_of_ble_eq_true rfl) (fun hc => ?_)
  rw [hlen]
  rw [grow_at] at hc ⊢
  have hlen : List.length (α := aC) (b ++ .inr (3, [.ref (L + 1), .null, .null, .int 0, .int 0]) :: (([] ++ [zC 6]) ++ [zC 6])) = L + 3 := len_at hL rfl
  refine g_putF dX3_init_17 kX3 wfX3_15 (Nat.le_of_ble_eq_true rfl) rfl rfl rfl (fun _ _ => ⟨rfl, rfl⟩) (rd_at hL) (Nat.le_of_ble_eq_true rfl) (fs' := [.ref (L + 1), .ref (L + 2), .null, .int 0, .int 0]) rfl ?_
  have hc := clH_wr (kf := 1) (v := .ref (L + 2)) hc (rd_at hL) (show L + 2 < _ by rw [hlen]; omega)
  rw [wr_at hL] at hc ⊢
  have hc : clH (b ++ .inr (3, [.ref (L + 1), .ref (L + 2), .null, .int 0, .int 0]) :: (([] ++ [zC 6]) ++ [zC 6])) := hc
  have hlen : List.length (α := aC) (b ++ .inr (3, [.ref (L + 1), .ref (L + 2), .null, .int 0, .int 0]) :: (([] ++ [zC 6]) ++ [zC 6])) = L + 3 := len_at hL rfl
  refine g_aload_n dX3_init_20 0 rfl ?_
  refine g_bipush (v := nI 6) dX3_init_21 (by decide +kernel) ?_
  refine g_newa dX3_init_23 (Nat.le_of_ble_eq_true rfl) hc ⟨(show L < _ by rw [hlen]; omega), trivial⟩ ⟨(show L < _ by rw [hlen]; omega), trivial⟩ (Nat.le_of_ble_eq_true rfl) (Nat.le_of_ble_eq_true rfl) (fun hc => ?_)
  rw [hlen]
  rw [grow_at] at hc ⊢
  have hlen : List.length (α := aC) (b ++ .inr (3, [.ref (L + 1), .ref (L + 2), .null, .int 0, .int 0]) :: ((([] ++ [zC 6]) ++ [zC 6]) ++ [zC 6])) = L + 4 := len_at hL rfl
  refine g_putF dX3_init_25 kX3 wfX3_18 (Nat.le_of_ble_eq_true rfl) rfl rfl rfl (fun _ _ => ⟨rfl, rfl⟩) (rd_at hL) (Nat.le_of_ble_eq_true rfl) (fs' := [.ref (L + 1), .ref (L + 2), .ref (L + 3), .int 0, .int 0]) rfl ?_
  have hc := clH_wr (kf := 2) (v := .ref (L + 3)) hc (rd_at hL) (show L + 3 < _ by rw [hlen]; omega)
  rw [wr_at hL] at hc ⊢
  have hc : clH (b ++ .inr (3, [.ref (L + 1), .ref (L + 2), .ref (L + 3), .int 0, .int 0]) :: ((([] ++ [zC 6]) ++ [zC 6]) ++ [zC 6])) := hc
  have hlen : List.length (α := aC) (b ++ .inr (3, [.ref (L + 1), .ref (L + 2), .ref (L + 3), .int 0, .int 0]) :: ((([] ++ [zC 6]) ++ [zC 6]) ++ [zC 6])) = L + 4 := len_at hL rfl
  refine g_aload_n dX3_init_28 0 rfl ?_
  refine g_bipush (v := nI 7) dX3_init_29 (by decide +kernel) ?_
  refine g_put dX3_init_31 kX3 wfX3_21 (Nat.le_of_ble_eq_true rfl) rfl (fun _ _ => ⟨rfl, rfl⟩) (rd_at hL) (Nat.le_of_ble_eq_true rfl) (fs' := [.ref (L + 1), .ref (L + 2), .ref (L + 3), .int (nI 7), .int 0]) rfl ?_
  have hc := clH_wr (kf := 3) (v := .int (nI 7)) hc (rd_at hL) trivial
  rw [wr_at hL] at hc ⊢
  have hc : clH (b ++ .inr (3, [.ref (L + 1), .ref (L + 2), .ref (L + 3), .int (nI 7), .int 0]) :: ((([] ++ [zC 6]) ++ [zC 6]) ++ [zC 6])) := hc
  have hlen : List.length (α := aC) (b ++ .inr (3, [.ref (L + 1), .ref (L + 2), .ref (L + 3), .int (nI 7), .int 0]) :: ((([] ++ [zC 6]) ++ [zC 6]) ++ [zC 6])) = L + 4 := len_at hL rfl
  refine g_aload_n dX3_init_34 0 rfl ?_
  refine g_iconst (v := nI 0) dX3_init_35 (by decide +kernel) ?_
  refine g_put dX3_init_36 kX3 wfX3_25 (Nat.le_of_ble_eq_true rfl) rfl (fun _ _ => ⟨rfl, rfl⟩) (rd_at hL) (Nat.le_of_ble_eq_true rfl) (fs' := [.ref (L + 1), .ref (L + 2), .ref (L + 3), .int (nI 7), .int (nI 0)]) rfl ?_
  have hc := clH_wr (kf := 4) (v := .int (nI 0)) hc (rd_at hL) trivial
  rw [wr_at hL] at hc ⊢
  have hc : clH (b ++ .inr (3, [.ref (L + 1), .ref (L + 2), .ref (L + 3), .int (nI 7), .int (nI 0)]) :: ((([] ++ [zC 6]) ++ [zC 6]) ++ [zC 6])) := hc
  have hlen : List.length (α := aC) (b ++ .inr (3, [.ref (L + 1), .ref (L + 2), .ref (L + 3), .int (nI 7), .int (nI 0)]) :: ((([] ++ [zC 6]) ++ [zC 6]) ++ [zC 6])) = L + 4 := len_at hL rfl
  exact g_vret dX3_init_39 rfl ⟨Nat.le_of_ble_eq_true rfl, Nat.le_of_ble_eq_true rfl⟩ ⟨rfl, rfl, hc⟩

set_option maxRecDepth 100000 in
set_option maxHeartbeats 4000000 in
theorem ec_X7 {b : List aC} (hb : clH b) {L : Nat} (hL : b.length = L) : Ev mX7_init 1 2 12 [.ref L] (b ++ [.inr (7, [.null, .null, .int 0])]) (pq none (fun h2 => h2 = b ++ turnsC L ∧ clH h2)) := by
  have hc : clH (b ++ [.inr (7, [.null, .null, .int 0])]) := hb.app (fun e he => by rw [List.mem_singleton.mp he]; exact fun v hv => (dcX7 v hv).le (Nat.zero_le _))
  refine Ev.of pX7_init (Nat.le_of_ble_eq_true rfl) ?_
  show G mX7_init (rmD 1 2 12) none _ 0 0 0 [(0, .ref L)] [] (b ++ .inr (7, [.null, .null, .int 0]) :: [])
  have hlen : List.length (α := aC) (b ++ .inr (7, [.null, .null, .int 0]) :: []) = L + 1 := len_at hL rfl
  refine g_aload_n dX7_init_0 0 rfl ?_
  refine g_objInit dX7_init_1 wmX7_3 (Nat.le_of_ble_eq_true rfl) ⟨Nat.le_of_ble_eq_true rfl, Nat.le_of_ble_eq_true rfl⟩ ?_
  refine g_aload_n dX7_init_4 0 rfl ?_
  refine g_bipush (v := nI 6) dX7_init_5 (by decide +kernel) ?_
  refine g_newa dX7_init_7 (Nat.le_of_ble_eq_true rfl) hc ⟨(show L < _ by rw [hlen]; omega), trivial⟩ ⟨(show L < _ by rw [hlen]; omega), trivial⟩ (Nat.le_of_ble_eq_true rfl) (Nat.le_of_ble_eq_true rfl) (fun hc => ?_)
  rw [hlen]
  rw [grow_at] at hc ⊢
  have hlen : List.length (α := aC) (b ++ .inr (7, [.null, .null, .int 0]) :: ([] ++ [zC 6])) = L + 2 := len_at hL rfl
  refine g_putF dX7_init_9 kX7 wfX7_9 (Nat.le_of_ble_eq_true rfl) rfl rfl rfl (fun _ _ => ⟨rfl, rfl⟩) (rd_at hL) (Nat.le_of_ble_eq_true rfl) (fs' := [.ref (L + 1), .null, .int 0]) rfl ?_
  have hc := clH_wr (kf := 0) (v := .ref (L + 1)) hc (rd_at hL) (show L + 1 < _ by rw [hlen]; omega)
  rw [wr_at hL] at hc ⊢
  have hc : clH (b ++ .inr (7, [.ref (L + 1), .null, .int 0]) :: ([] ++ [zC 6])) := hc
  have hlen : List.length (α := aC) (b ++ .inr (7, [.ref (L + 1), .null, .int 0]) :: ([] ++ [zC 6])) = L + 2 := len_at hL rfl
  refine g_aload_n dX7_init_12 0 rfl ?_
  refine g_bipush (v := nI 6) dX7_init_13 (by decide +kernel) ?_
  refine g_newa dX7_init_15 (Nat.le_of_ble_eq_true rfl) hc ⟨(show L < _ by rw [hlen]; omega), trivial⟩ ⟨(show L < _ by rw [hlen]; omega), trivial⟩ (Nat.le_of_ble_eq_true rfl) (Nat.le_of_ble_eq_true rfl) (fun hc => ?_)
  rw [hlen]
  rw [grow_at] at hc ⊢
  have hlen : List.length (α := aC) (b ++ .inr (7, [.ref (L + 1), .null, .int 0]) :: (([] ++ [zC 6]) ++ [zC 6])) = L + 3 := len_at hL rfl
  refine g_putF dX7_init_17 kX7 wfX7_15 (Nat.le_of_ble_eq_true rfl) rfl rfl rfl (fun _ _ => ⟨rfl, rfl⟩) (rd_at hL) (Nat.le_of_ble_eq_true rfl) (fs' := [.ref (L + 1), .ref (L + 2), .int 0]) rfl ?_
  have hc := clH_wr (kf := 1) (v := .ref (L + 2)) hc (rd_at hL) (show L + 2 < _ by rw [hlen]; omega)
  rw [wr_at hL] at hc ⊢
  have hc : clH (b ++ .inr (7, [.ref (L + 1), .ref (L + 2), .int 0]) :: (([] ++ [zC 6]) ++ [zC 6])) := hc
  have hlen : List.length (α := aC) (b ++ .inr (7, [.ref (L + 1), .ref (L + 2), .int 0]) :: (([] ++ [zC 6]) ++ [zC 6])) = L + 3 := len_at hL rfl
  refine g_aload_n dX7_init_20 0 rfl ?_
  refine g_iconst (v := nI 0) dX7_init_21 (by decide +kernel) ?_
  refine g_put dX7_init_22 kX7 wfX7_18 (Nat.le_of_ble_eq_true rfl) rfl (fun _ _ => ⟨rfl, rfl⟩) (rd_at hL) (Nat.le_of_ble_eq_true rfl) (fs' := [.ref (L + 1), .ref (L + 2), .int (nI 0)]) rfl ?_
  have hc := clH_wr (kf := 2) (v := .int (nI 0)) hc (rd_at hL) trivial
  rw [wr_at hL] at hc ⊢
  have hc : clH (b ++ .inr (7, [.ref (L + 1), .ref (L + 2), .int (nI 0)]) :: (([] ++ [zC 6]) ++ [zC 6])) := hc
  have hlen : List.length (α := aC) (b ++ .inr (7, [.ref (L + 1), .ref (L + 2), .int (nI 0)]) :: (([] ++ [zC 6]) ++ [zC 6])) = L + 3 := len_at hL rfl
  exact g_vret dX7_init_25 rfl ⟨Nat.le_of_ble_eq_true rfl, Nat.le_of_ble_eq_true rfl⟩ ⟨rfl, rfl, hc⟩

set_option maxRecDepth 100000 in
set_option maxHeartbeats 4000000 in
theorem ec_X4 {b : List aC} (hb : clH b) {L : Nat} (hL : b.length = L) : Ev mX4_init 1 2 365 [.ref L] (b ++ [.inr (4, [.null, .null, .int 0])]) (pq none (fun h2 => h2 = b ++ roomC L ∧ clH h2)) := by
  have hc : clH (b ++ [.inr (4, [.null, .null, .int 0])]) := hb.app (fun e he => by rw [List.mem_singleton.mp he]; exact fun v hv => (dcX4 v hv).le (Nat.zero_le _))
  refine Ev.of pX4_init (Nat.le_of_ble_eq_true rfl) ?_
  show G mX4_init (rmD 1 2 365) none _ 0 0 0 [(0, .ref L)] [] (b ++ .inr (4, [.null, .null, .int 0]) :: [])
  have hlen : List.length (α := aC) (b ++ .inr (4, [.null, .null, .int 0]) :: []) = L + 1 := len_at hL rfl
  refine g_aload_n dX4_init_0 0 rfl ?_
  refine g_objInit dX4_init_1 wmX4_3 (Nat.le_of_ble_eq_true rfl) ⟨Nat.le_of_ble_eq_true rfl, Nat.le_of_ble_eq_true rfl⟩ ?_
  refine g_aload_n dX4_init_4 0 rfl ?_
  refine g_sipush (v := nI 169) dX4_init_5 (by decide +kernel) ?_
  refine g_newa dX4_init_8 (Nat.le_of_ble_eq_true rfl) hc ⟨(show L < _ by rw [hlen]; omega), trivial⟩ ⟨(show L < _ by rw [hlen]; omega), trivial⟩ (Nat.le_of_ble_eq_true rfl) (Nat.le_of_ble_eq_true rfl) (fun hc => ?_)
  rw [hlen]
  rw [grow_at] at hc ⊢
  have hlen : List.length (α := aC) (b ++ .inr (4, [.null, .null, .int 0]) :: ([] ++ [zC 169])) = L + 2 := len_at hL rfl
  refine g_putF dX4_init_10 kX4 wfX4_9 (Nat.le_of_ble_eq_true rfl) rfl rfl rfl (fun _ _ => ⟨rfl, rfl⟩) (rd_at hL) (Nat.le_of_ble_eq_true rfl) (fs' := [.ref (L + 1), .null, .int 0]) rfl ?_
  have hc := clH_wr (kf := 0) (v := .ref (L + 1)) hc (rd_at hL) (show L + 1 < _ by rw [hlen]; omega)
  rw [wr_at hL] at hc ⊢
  have hc : clH (b ++ .inr (4, [.ref (L + 1), .null, .int 0]) :: ([] ++ [zC 169])) := hc
  have hlen : List.length (α := aC) (b ++ .inr (4, [.ref (L + 1), .null, .int 0]) :: ([] ++ [zC 169])) = L + 2 := len_at hL rfl
  refine g_aload_n dX4_init_13 0 rfl ?_
  refine g_sipush (v := nI 196) dX4_init_14 (by decide +kernel) ?_
  refine g_newa dX4_init_17 (Nat.le_of_ble_eq_true rfl) hc ⟨(show L < _ by rw [hlen]; omega), trivial⟩ ⟨(show L < _ by rw [hlen]; omega), trivial⟩ (Nat.le_of_ble_eq_true rfl) (Nat.le_of_ble_eq_true rfl) (fun hc => ?_)
  rw [hlen]
  rw [grow_at] at hc ⊢
  have hlen : List.length (α := aC) (b ++ .inr (4, [.ref (L + 1), .null, .int 0]) :: (([] ++ [zC 169]) ++ [zC 196])) = L + 3 := len_at hL rfl
  refine g_putF dX4_init_19 kX4 wfX4_15 (Nat.le_of_ble_eq_true rfl) rfl rfl rfl (fun _ _ => ⟨rfl, rfl⟩) (rd_at hL) (Nat.le_of_ble_eq_true rfl) (fs' := [.ref (L + 1), .ref (L + 2), .int 0]) rfl ?_
  have hc := clH_wr (kf := 1) (v := .ref (L + 2)) hc (rd_at hL) (show L + 2 < _ by rw [hlen]; omega)
  rw [wr_at hL] at hc ⊢
  have hc : clH (b ++ .inr (4, [.ref (L + 1), .ref (L + 2), .int 0]) :: (([] ++ [zC 169]) ++ [zC 196])) := hc
  have hlen : List.length (α := aC) (b ++ .inr (4, [.ref (L + 1), .ref (L + 2), .int 0]) :: (([] ++ [zC 169]) ++ [zC 196])) = L + 3 := len_at hL rfl
  refine g_aload_n dX4_init_22 0 rfl ?_
  refine g_bipush (v := nI 7) dX4_init_23 (by decide +kernel) ?_
  refine g_put dX4_init_25 kX4 wfX4_18 (Nat.le_of_ble_eq_true rfl) rfl (fun _ _ => ⟨rfl, rfl⟩) (rd_at hL) (Nat.le_of_ble_eq_true rfl) (fs' := [.ref (L + 1), .ref (L + 2), .int (nI 7)]) rfl ?_
  have hc := clH_wr (kf := 2) (v := .int (nI 7)) hc (rd_at hL) trivial
  rw [wr_at hL] at hc ⊢
  have hc : clH (b ++ .inr (4, [.ref (L + 1), .ref (L + 2), .int (nI 7)]) :: (([] ++ [zC 169]) ++ [zC 196])) := hc
  have hlen : List.length (α := aC) (b ++ .inr (4, [.ref (L + 1), .ref (L + 2), .int (nI 7)]) :: (([] ++ [zC 169]) ++ [zC 196])) = L + 3 := len_at hL rfl
  exact g_vret dX4_init_28 rfl ⟨Nat.le_of_ble_eq_true rfl, Nat.le_of_ble_eq_true rfl⟩ ⟨rfl, rfl, hc⟩

set_option maxRecDepth 100000 in
set_option maxHeartbeats 4000000 in
theorem ec_X1 {b : List aC} (hb : clH b) {L : Nat} (hL : b.length = L) : Ev mX1_init 1 1 72 [.ref L] (b ++ [.inr (1, [.null, .int 0])]) (pq none (fun h2 => h2 = b ++ lettersC L ∧ clH h2)) := by
  have hc : clH (b ++ [.inr (1, [.null, .int 0])]) := hb.app (fun e he => by rw [List.mem_singleton.mp he]; exact fun v hv => (dcX1 v hv).le (Nat.zero_le _))
  refine Ev.of pX1_init (Nat.le_of_ble_eq_true rfl) ?_
  show G mX1_init (rmD 1 1 72) none _ 0 0 0 [(0, .ref L)] [] (b ++ .inr (1, [.null, .int 0]) :: [])
  have hlen : List.length (α := aC) (b ++ .inr (1, [.null, .int 0]) :: []) = L + 1 := len_at hL rfl
  refine g_aload_n dX1_init_0 0 rfl ?_
  refine g_objInit dX1_init_1 wmX1_3 (Nat.le_of_ble_eq_true rfl) ⟨Nat.le_of_ble_eq_true rfl, Nat.le_of_ble_eq_true rfl⟩ ?_
  refine g_aload_n dX1_init_4 0 rfl ?_
  refine g_bipush (v := nI 72) dX1_init_5 (by decide +kernel) ?_
  refine g_newa dX1_init_7 (Nat.le_of_ble_eq_true rfl) hc ⟨(show L < _ by rw [hlen]; omega), trivial⟩ ⟨(show L < _ by rw [hlen]; omega), trivial⟩ (Nat.le_of_ble_eq_true rfl) (Nat.le_of_ble_eq_true rfl) (fun hc => ?_)
  rw [hlen]
  rw [grow_at] at hc ⊢
  have hlen : List.length (α := aC) (b ++ .inr (1, [.null, .int 0]) :: ([] ++ [zC 72])) = L + 2 := len_at hL rfl
  refine g_putF dX1_init_9 kX1 wfX1_9 (Nat.le_of_ble_eq_true rfl) rfl rfl rfl (fun _ _ => ⟨rfl, rfl⟩) (rd_at hL) (Nat.le_of_ble_eq_true rfl) (fs' := [.ref (L + 1), .int 0]) rfl ?_
  have hc := clH_wr (kf := 0) (v := .ref (L + 1)) hc (rd_at hL) (show L + 1 < _ by rw [hlen]; omega)
  rw [wr_at hL] at hc ⊢
  have hc : clH (b ++ .inr (1, [.ref (L + 1), .int 0]) :: ([] ++ [zC 72])) := hc
  have hlen : List.length (α := aC) (b ++ .inr (1, [.ref (L + 1), .int 0]) :: ([] ++ [zC 72])) = L + 2 := len_at hL rfl
  refine g_aload_n dX1_init_12 0 rfl ?_
  refine g_iconst (v := nI 0) dX1_init_13 (by decide +kernel) ?_
  refine g_put dX1_init_14 kX1 wfX1_15 (Nat.le_of_ble_eq_true rfl) rfl (fun _ _ => ⟨rfl, rfl⟩) (rd_at hL) (Nat.le_of_ble_eq_true rfl) (fs' := [.ref (L + 1), .int (nI 0)]) rfl ?_
  have hc := clH_wr (kf := 1) (v := .int (nI 0)) hc (rd_at hL) trivial
  rw [wr_at hL] at hc ⊢
  have hc : clH (b ++ .inr (1, [.ref (L + 1), .int (nI 0)]) :: ([] ++ [zC 72])) := hc
  have hlen : List.length (α := aC) (b ++ .inr (1, [.ref (L + 1), .int (nI 0)]) :: ([] ++ [zC 72])) = L + 2 := len_at hL rfl
  exact g_vret dX1_init_17 rfl ⟨Nat.le_of_ble_eq_true rfl, Nat.le_of_ble_eq_true rfl⟩ ⟨rfl, rfl, hc⟩

set_option maxRecDepth 100000 in
set_option maxHeartbeats 4000000 in
theorem ec_X2 {b : List aC} (hb : clH b) {L : Nat} (hL : b.length = L) : Ev mX2_init 1 5 126 [.ref L] (b ++ [.inr (2, [.null, .null])]) (pq none (fun h2 => h2 = b ++ listsC L ∧ clH h2)) := by
  have hc : clH (b ++ [.inr (2, [.null, .null])]) := hb.app (fun e he => by rw [List.mem_singleton.mp he]; exact fun v hv => (dcX2 v hv).le (Nat.zero_le _))
  refine Ev.of pX2_init (Nat.le_of_ble_eq_true rfl) ?_
  show G mX2_init (rmD 1 5 126) none _ 0 0 0 [(0, .ref L)] [] (b ++ .inr (2, [.null, .null]) :: [])
  have hlen : List.length (α := aC) (b ++ .inr (2, [.null, .null]) :: []) = L + 1 := len_at hL rfl
  refine g_aload_n dX2_init_0 0 rfl ?_
  refine g_objInit dX2_init_1 wmX2_3 (Nat.le_of_ble_eq_true rfl) ⟨Nat.le_of_ble_eq_true rfl, Nat.le_of_ble_eq_true rfl⟩ ?_
  refine g_aload_n dX2_init_4 0 rfl ?_
  refine g_iconst (v := nI 3) dX2_init_5 (by decide +kernel) ?_
  refine g_bipush (v := nI 40) dX2_init_6 (by decide +kernel) ?_
  refine g_mnew dX2_init_8 wkX2_11 (Nat.le_of_ble_eq_true rfl) (Nat.le_of_ble_eq_true rfl) hc ⟨(show L < _ by rw [hlen]; omega), trivial⟩ ⟨(show L < _ by rw [hlen]; omega), trivial⟩ (Nat.le_of_ble_eq_true rfl) (Nat.le_of_ble_eq_true rfl) (fun hc => ?_)
  rw [hlen] at hc ⊢
  rw [grow_at] at hc ⊢
  have hlen : List.length (α := aC) (b ++ .inr (2, [.null, .null]) :: ([] ++ mnC (L + 1) 3 40)) = L + 5 := len_at hL rfl
  refine g_putF dX2_init_12 kX2 wfX2_13 (Nat.le_of_ble_eq_true rfl) rfl rfl rfl (fun _ _ => ⟨rfl, rfl⟩) (rd_at hL) (Nat.le_of_ble_eq_true rfl) (fs' := [.ref (L + 1), .null]) rfl ?_
  have hc := clH_wr (kf := 0) (v := .ref (L + 1)) hc (rd_at hL) (show L + 1 < _ by rw [hlen]; omega)
  rw [wr_at hL] at hc ⊢
  have hc : clH (b ++ .inr (2, [.ref (L + 1), .null]) :: ([] ++ mnC (L + 1) 3 40)) := hc
  have hlen : List.length (α := aC) (b ++ .inr (2, [.ref (L + 1), .null]) :: ([] ++ mnC (L + 1) 3 40)) = L + 5 := len_at hL rfl
  refine g_aload_n dX2_init_15 0 rfl ?_
  refine g_iconst (v := nI 3) dX2_init_16 (by decide +kernel) ?_
  refine g_newa dX2_init_17 (Nat.le_of_ble_eq_true rfl) hc ⟨(show L < _ by rw [hlen]; omega), trivial⟩ ⟨(show L < _ by rw [hlen]; omega), trivial⟩ (Nat.le_of_ble_eq_true rfl) (Nat.le_of_ble_eq_true rfl) (fun hc => ?_)
  rw [hlen]
  rw [grow_at] at hc ⊢
  have hlen : List.length (α := aC) (b ++ .inr (2, [.ref (L + 1), .null]) :: (([] ++ mnC (L + 1) 3 40) ++ [zC 3])) = L + 6 := len_at hL rfl
  refine g_dup dX2_init_19 rfl ?_
  refine g_iconst (v := nI 0) dX2_init_20 (by decide +kernel) ?_
  refine g_iconst (v := (-1)) dX2_init_21 (by decide +kernel) ?_
  refine g_iastore (L := [0, 0, 0]) (L' := [-1, 0, 0]) dX2_init_22 (rd_k hL (i := 5) rfl) (show ¬ _ by decide) rfl ?_
  have hc := clH_wrI (o := L + 5) (L := [-1, 0, 0]) hc
  rw [wr_k hL] at hc ⊢
  have hc : clH (b ++ .inr (2, [.ref (L + 1), .null]) :: (([] ++ mnC (L + 1) 3 40) ++ [.inl [-1, 0, 0]])) := hc
  show G mX2_init _ _ _ _ _ _ _ _ (b ++ .inr (2, [.ref (L + 1), .null]) :: (([] ++ mnC (L + 1) 3 40) ++ [.inl [-1, 0, 0]]))
  have hlen : List.length (α := aC) (b ++ .inr (2, [.ref (L + 1), .null]) :: (([] ++ mnC (L + 1) 3 40) ++ [.inl [-1, 0, 0]])) = L + 6 := len_at hL rfl
  refine g_dup dX2_init_23 rfl ?_
  refine g_iconst (v := nI 1) dX2_init_24 (by decide +kernel) ?_
  refine g_iconst (v := (-1)) dX2_init_25 (by decide +kernel) ?_
  refine g_iastore (L := [-1, 0, 0]) (L' := [-1, -1, 0]) dX2_init_26 (rd_k hL (i := 5) rfl) (show ¬ _ by decide) rfl ?_
  have hc := clH_wrI (o := L + 5) (L := [-1, -1, 0]) hc
  rw [wr_k hL] at hc ⊢
  have hc : clH (b ++ .inr (2, [.ref (L + 1), .null]) :: (([] ++ mnC (L + 1) 3 40) ++ [.inl [-1, -1, 0]])) := hc
  show G mX2_init _ _ _ _ _ _ _ _ (b ++ .inr (2, [.ref (L + 1), .null]) :: (([] ++ mnC (L + 1) 3 40) ++ [.inl [-1, -1, 0]]))
  have hlen : List.length (α := aC) (b ++ .inr (2, [.ref (L + 1), .null]) :: (([] ++ mnC (L + 1) 3 40) ++ [.inl [-1, -1, 0]])) = L + 6 := len_at hL rfl
  refine g_dup dX2_init_27 rfl ?_
  refine g_iconst (v := nI 2) dX2_init_28 (by decide +kernel) ?_
  refine g_iconst (v := (-1)) dX2_init_29 (by decide +kernel) ?_
  refine g_iastore (L := [-1, -1, 0]) (L' := [-1, -1, -1]) dX2_init_30 (rd_k hL (i := 5) rfl) (show ¬ _ by decide) rfl ?_
  have hc := clH_wrI (o := L + 5) (L := [-1, -1, -1]) hc
  rw [wr_k hL] at hc ⊢
  have hc : clH (b ++ .inr (2, [.ref (L + 1), .null]) :: (([] ++ mnC (L + 1) 3 40) ++ [.inl [-1, -1, -1]])) := hc
  show G mX2_init _ _ _ _ _ _ _ _ (b ++ .inr (2, [.ref (L + 1), .null]) :: (([] ++ mnC (L + 1) 3 40) ++ [.inl [-1, -1, -1]]))
  have hlen : List.length (α := aC) (b ++ .inr (2, [.ref (L + 1), .null]) :: (([] ++ mnC (L + 1) 3 40) ++ [.inl [-1, -1, -1]])) = L + 6 := len_at hL rfl
  refine g_putF dX2_init_31 kX2 wfX2_16 (Nat.le_of_ble_eq_true rfl) rfl rfl rfl (fun _ _ => ⟨rfl, rfl⟩) (rd_at hL) (Nat.le_of_ble_eq_true rfl) (fs' := [.ref (L + 1), .ref (L + 5)]) rfl ?_
  have hc := clH_wr (kf := 1) (v := .ref (L + 5)) hc (rd_at hL) (show L + 5 < _ by rw [hlen]; omega)
  rw [wr_at hL] at hc ⊢
  have hc : clH (b ++ .inr (2, [.ref (L + 1), .ref (L + 5)]) :: (([] ++ mnC (L + 1) 3 40) ++ [.inl [-1, -1, -1]])) := hc
  have hlen : List.length (α := aC) (b ++ .inr (2, [.ref (L + 1), .ref (L + 5)]) :: (([] ++ mnC (L + 1) 3 40) ++ [.inl [-1, -1, -1]])) = L + 6 := len_at hL rfl
  exact g_vret dX2_init_34 rfl ⟨Nat.le_of_ble_eq_true rfl, Nat.le_of_ble_eq_true rfl⟩ ⟨rfl, rfl, hc⟩

set_option maxRecDepth 100000 in
set_option maxHeartbeats 4000000 in
theorem ec_X0 {b : List aC} (hb : clH b) {L : Nat} (hL : b.length = L) : Ev mX0_init 1 41 276 [.ref L] (b ++ [.inr (0, [.null, .null, .null, .null, .null, .int 0, .int 0])]) (pq none (fun h2 => h2 = b ++ histC L ∧ clH h2)) := by
  have hc : clH (b ++ [.inr (0, [.null, .null, .null, .null, .null, .int 0, .int 0])]) := hb.app (fun e he => by rw [List.mem_singleton.mp he]; exact fun v hv => (dcX0 v hv).le (Nat.zero_le _))
  refine Ev.of pX0_init (Nat.le_of_ble_eq_true rfl) ?_
  show G mX0_init (rmD 1 41 276) none _ 0 0 0 [(0, .ref L)] [] (b ++ .inr (0, [.null, .null, .null, .null, .null, .int 0, .int 0]) :: [])
  have hlen : List.length (α := aC) (b ++ .inr (0, [.null, .null, .null, .null, .null, .int 0, .int 0]) :: []) = L + 1 := len_at hL rfl
  refine g_aload_n dX0_init_0 0 rfl ?_
  refine g_objInit dX0_init_1 wmX0_3 (Nat.le_of_ble_eq_true rfl) ⟨Nat.le_of_ble_eq_true rfl, Nat.le_of_ble_eq_true rfl⟩ ?_
  refine g_aload_n dX0_init_4 0 rfl ?_
  refine g_bipush (v := nI 12) dX0_init_5 (by decide +kernel) ?_
  refine g_bipush (v := nI 6) dX0_init_7 (by decide +kernel) ?_
  refine g_mnew dX0_init_9 wkX0_9 (Nat.le_of_ble_eq_true rfl) (Nat.le_of_ble_eq_true rfl) hc ⟨(show L < _ by rw [hlen]; omega), trivial⟩ ⟨(show L < _ by rw [hlen]; omega), trivial⟩ (Nat.le_of_ble_eq_true rfl) (Nat.le_of_ble_eq_true rfl) (fun hc => ?_)
  rw [hlen] at hc ⊢
  rw [grow_at] at hc ⊢
  have hlen : List.length (α := aC) (b ++ .inr (0, [.null, .null, .null, .null, .null, .int 0, .int 0]) :: ([] ++ mnC (L + 1) 12 6)) = L + 14 := len_at hL rfl
  refine g_putF dX0_init_13 kX0 wfX0_11 (Nat.le_of_ble_eq_true rfl) rfl rfl rfl (fun _ _ => ⟨rfl, rfl⟩) (rd_at hL) (Nat.le_of_ble_eq_true rfl) (fs' := [.ref (L + 1), .null, .null, .null, .null, .int 0, .int 0]) rfl ?_
  have hc := clH_wr (kf := 0) (v := .ref (L + 1)) hc (rd_at hL) (show L + 1 < _ by rw [hlen]; omega)
  rw [wr_at hL] at hc ⊢
  have hc : clH (b ++ .inr (0, [.ref (L + 1), .null, .null, .null, .null, .int 0, .int 0]) :: ([] ++ mnC (L + 1) 12 6)) := hc
  have hlen : List.length (α := aC) (b ++ .inr (0, [.ref (L + 1), .null, .null, .null, .null, .int 0, .int 0]) :: ([] ++ mnC (L + 1) 12 6)) = L + 14 := len_at hL rfl
  refine g_aload_n dX0_init_16 0 rfl ?_
  refine g_bipush (v := nI 12) dX0_init_17 (by decide +kernel) ?_
  refine g_bipush (v := nI 6) dX0_init_19 (by decide +kernel) ?_
  refine g_mnew dX0_init_21 wkX0_9 (Nat.le_of_ble_eq_true rfl) (Nat.le_of_ble_eq_true rfl) hc ⟨(show L < _ by rw [hlen]; omega), trivial⟩ ⟨(show L < _ by rw [hlen]; omega), trivial⟩ (Nat.le_of_ble_eq_true rfl) (Nat.le_of_ble_eq_true rfl) (fun hc => ?_)
  rw [hlen] at hc ⊢
  rw [grow_at] at hc ⊢
  have hlen : List.length (α := aC) (b ++ .inr (0, [.ref (L + 1), .null, .null, .null, .null, .int 0, .int 0]) :: (([] ++ mnC (L + 1) 12 6) ++ mnC (L + 14) 12 6)) = L + 27 := len_at hL rfl
  refine g_putF dX0_init_25 kX0 wfX0_16 (Nat.le_of_ble_eq_true rfl) rfl rfl rfl (fun _ _ => ⟨rfl, rfl⟩) (rd_at hL) (Nat.le_of_ble_eq_true rfl) (fs' := [.ref (L + 1), .ref (L + 14), .null, .null, .null, .int 0, .int 0]) rfl ?_
  have hc := clH_wr (kf := 1) (v := .ref (L + 14)) hc (rd_at hL) (show L + 14 < _ by rw [hlen]; omega)
  rw [wr_at hL] at hc ⊢
  have hc : clH (b ++ .inr (0, [.ref (L + 1), .ref (L + 14), .null, .null, .null, .int 0, .int 0]) :: (([] ++ mnC (L + 1) 12 6) ++ mnC (L + 14) 12 6)) := hc
  have hlen : List.length (α := aC) (b ++ .inr (0, [.ref (L + 1), .ref (L + 14), .null, .null, .null, .int 0, .int 0]) :: (([] ++ mnC (L + 1) 12 6) ++ mnC (L + 14) 12 6)) = L + 27 := len_at hL rfl
  refine g_aload_n dX0_init_28 0 rfl ?_
  refine g_bipush (v := nI 12) dX0_init_29 (by decide +kernel) ?_
  refine g_bipush (v := nI 6) dX0_init_31 (by decide +kernel) ?_
  refine g_mnew dX0_init_33 wkX0_9 (Nat.le_of_ble_eq_true rfl) (Nat.le_of_ble_eq_true rfl) hc ⟨(show L < _ by rw [hlen]; omega), trivial⟩ ⟨(show L < _ by rw [hlen]; omega), trivial⟩ (Nat.le_of_ble_eq_true rfl) (Nat.le_of_ble_eq_true rfl) (fun hc => ?_)
  rw [hlen] at hc ⊢
  rw [grow_at] at hc ⊢
  have hlen : List.length (α := aC) (b ++ .inr (0, [.ref (L + 1), .ref (L + 14), .null, .null, .null, .int 0, .int 0]) :: ((([] ++ mnC (L + 1) 12 6) ++ mnC (L + 14) 12 6) ++ mnC (L + 27) 12 6)) = L + 40 := len_at hL rfl
  refine g_putF dX0_init_37 kX0 wfX0_19 (Nat.le_of_ble_eq_true rfl) rfl rfl rfl (fun _ _ => ⟨rfl, rfl⟩) (rd_at hL) (Nat.le_of_ble_eq_true rfl) (fs' := [.ref (L + 1), .ref (L + 14), .ref (L + 27), .null, .null, .int 0, .int 0]) rfl ?_
  have hc := clH_wr (kf := 2) (v := .ref (L + 27)) hc (rd_at hL) (show L + 27 < _ by rw [hlen]; omega)
  rw [wr_at hL] at hc ⊢
  have hc : clH (b ++ .inr (0, [.ref (L + 1), .ref (L + 14), .ref (L + 27), .null, .null, .int 0, .int 0]) :: ((([] ++ mnC (L + 1) 12 6) ++ mnC (L + 14) 12 6) ++ mnC (L + 27) 12 6)) := hc
  have hlen : List.length (α := aC) (b ++ .inr (0, [.ref (L + 1), .ref (L + 14), .ref (L + 27), .null, .null, .int 0, .int 0]) :: ((([] ++ mnC (L + 1) 12 6) ++ mnC (L + 14) 12 6) ++ mnC (L + 27) 12 6)) = L + 40 := len_at hL rfl
  refine g_aload_n dX0_init_40 0 rfl ?_
  refine g_bipush (v := nI 12) dX0_init_41 (by decide +kernel) ?_
  refine g_newa dX0_init_43 (Nat.le_of_ble_eq_true rfl) hc ⟨(show L < _ by rw [hlen]; omega), trivial⟩ ⟨(show L < _ by rw [hlen]; omega), trivial⟩ (Nat.le_of_ble_eq_true rfl) (Nat.le_of_ble_eq_true rfl) (fun hc => ?_)
  rw [hlen]
  rw [grow_at] at hc ⊢
  have hlen : List.length (α := aC) (b ++ .inr (0, [.ref (L + 1), .ref (L + 14), .ref (L + 27), .null, .null, .int 0, .int 0]) :: (((([] ++ mnC (L + 1) 12 6) ++ mnC (L + 14) 12 6) ++ mnC (L + 27) 12 6) ++ [zC 12])) = L + 41 := len_at hL rfl
  refine g_putF dX0_init_45 kX0 wfX0_22 (Nat.le_of_ble_eq_true rfl) rfl rfl rfl (fun _ _ => ⟨rfl, rfl⟩) (rd_at hL) (Nat.le_of_ble_eq_true rfl) (fs' := [.ref (L + 1), .ref (L + 14), .ref (L + 27), .ref (L + 40), .null, .int 0, .int 0]) rfl ?_
  have hc := clH_wr (kf := 3) (v := .ref (L + 40)) hc (rd_at hL) (show L + 40 < _ by rw [hlen]; omega)
  rw [wr_at hL] at hc ⊢
  have hc : clH (b ++ .inr (0, [.ref (L + 1), .ref (L + 14), .ref (L + 27), .ref (L + 40), .null, .int 0, .int 0]) :: (((([] ++ mnC (L + 1) 12 6) ++ mnC (L + 14) 12 6) ++ mnC (L + 27) 12 6) ++ [zC 12])) := hc
  have hlen : List.length (α := aC) (b ++ .inr (0, [.ref (L + 1), .ref (L + 14), .ref (L + 27), .ref (L + 40), .null, .int 0, .int 0]) :: (((([] ++ mnC (L + 1) 12 6) ++ mnC (L + 14) 12 6) ++ mnC (L + 27) 12 6) ++ [zC 12])) = L + 41 := len_at hL rfl
  refine g_aload_n dX0_init_48 0 rfl ?_
  refine g_bipush (v := nI 12) dX0_init_49 (by decide +kernel) ?_
  refine g_newa dX0_init_51 (Nat.le_of_ble_eq_true rfl) hc ⟨(show L < _ by rw [hlen]; omega), trivial⟩ ⟨(show L < _ by rw [hlen]; omega), trivial⟩ (Nat.le_of_ble_eq_true rfl) (Nat.le_of_ble_eq_true rfl) (fun hc => ?_)
  rw [hlen]
  rw [grow_at] at hc ⊢
  have hlen : List.length (α := aC) (b ++ .inr (0, [.ref (L + 1), .ref (L + 14), .ref (L + 27), .ref (L + 40), .null, .int 0, .int 0]) :: ((((([] ++ mnC (L + 1) 12 6) ++ mnC (L + 14) 12 6) ++ mnC (L + 27) 12 6) ++ [zC 12]) ++ [zC 12])) = L + 42 := len_at hL rfl
  refine g_putF dX0_init_53 kX0 wfX0_26 (Nat.le_of_ble_eq_true rfl) rfl rfl rfl (fun _ _ => ⟨rfl, rfl⟩) (rd_at hL) (Nat.le_of_ble_eq_true rfl) (fs' := [.ref (L + 1), .ref (L + 14), .ref (L + 27), .ref (L + 40), .ref (L + 41), .int 0, .int 0]) rfl ?_
  have hc := clH_wr (kf := 4) (v := .ref (L + 41)) hc (rd_at hL) (show L + 41 < _ by rw [hlen]; omega)
  rw [wr_at hL] at hc ⊢
  have hc : clH (b ++ .inr (0, [.ref (L + 1), .ref (L + 14), .ref (L + 27), .ref (L + 40), .ref (L + 41), .int 0, .int 0]) :: ((((([] ++ mnC (L + 1) 12 6) ++ mnC (L + 14) 12 6) ++ mnC (L + 27) 12 6) ++ [zC 12]) ++ [zC 12])) := hc
  have hlen : List.length (α := aC) (b ++ .inr (0, [.ref (L + 1), .ref (L + 14), .ref (L + 27), .ref (L + 40), .ref (L + 41), .int 0, .int 0]) :: ((((([] ++ mnC (L + 1) 12 6) ++ mnC (L + 14) 12 6) ++ mnC (L + 27) 12 6) ++ [zC 12]) ++ [zC 12])) = L + 42 := len_at hL rfl
  refine g_aload_n dX0_init_56 0 rfl ?_
  refine g_iconst (v := nI 0) dX0_init_57 (by decide +kernel) ?_
  refine g_put dX0_init_58 kX0 wfX0_29 (Nat.le_of_ble_eq_true rfl) rfl (fun _ _ => ⟨rfl, rfl⟩) (rd_at hL) (Nat.le_of_ble_eq_true rfl) (fs' := [.ref (L + 1), .ref (L + 14), .ref (L + 27), .ref (L + 40), .ref (L + 41), .int (nI 0), .int 0]) rfl ?_
  have hc := clH_wr (kf := 5) (v := .int (nI 0)) hc (rd_at hL) trivial
  rw [wr_at hL] at hc ⊢
  have hc : clH (b ++ .inr (0, [.ref (L + 1), .ref (L + 14), .ref (L + 27), .ref (L + 40), .ref (L + 41), .int (nI 0), .int 0]) :: ((((([] ++ mnC (L + 1) 12 6) ++ mnC (L + 14) 12 6) ++ mnC (L + 27) 12 6) ++ [zC 12]) ++ [zC 12])) := hc
  have hlen : List.length (α := aC) (b ++ .inr (0, [.ref (L + 1), .ref (L + 14), .ref (L + 27), .ref (L + 40), .ref (L + 41), .int (nI 0), .int 0]) :: ((((([] ++ mnC (L + 1) 12 6) ++ mnC (L + 14) 12 6) ++ mnC (L + 27) 12 6) ++ [zC 12]) ++ [zC 12])) = L + 42 := len_at hL rfl
  refine g_aload_n dX0_init_61 0 rfl ?_
  refine g_iconst (v := nI 0) dX0_init_62 (by decide +kernel) ?_
  refine g_put dX0_init_63 kX0 wfX0_33 (Nat.le_of_ble_eq_true rfl) rfl (fun _ _ => ⟨rfl, rfl⟩) (rd_at hL) (Nat.le_of_ble_eq_true rfl) (fs' := [.ref (L + 1), .ref (L + 14), .ref (L + 27), .ref (L + 40), .ref (L + 41), .int (nI 0), .int (nI 0)]) rfl ?_
  have hc := clH_wr (kf := 6) (v := .int (nI 0)) hc (rd_at hL) trivial
  rw [wr_at hL] at hc ⊢
  have hc : clH (b ++ .inr (0, [.ref (L + 1), .ref (L + 14), .ref (L + 27), .ref (L + 40), .ref (L + 41), .int (nI 0), .int (nI 0)]) :: ((((([] ++ mnC (L + 1) 12 6) ++ mnC (L + 14) 12 6) ++ mnC (L + 27) 12 6) ++ [zC 12]) ++ [zC 12])) := hc
  have hlen : List.length (α := aC) (b ++ .inr (0, [.ref (L + 1), .ref (L + 14), .ref (L + 27), .ref (L + 40), .ref (L + 41), .int (nI 0), .int (nI 0)]) :: ((((([] ++ mnC (L + 1) 12 6) ++ mnC (L + 14) 12 6) ++ mnC (L + 27) 12 6) ++ [zC 12]) ++ [zC 12])) = L + 42 := len_at hL rfl
  exact g_vret dX0_init_66 rfl ⟨Nat.le_of_ble_eq_true rfl, Nat.le_of_ble_eq_true rfl⟩ ⟨rfl, rfl, hc⟩

set_option maxRecDepth 100000 in
set_option maxHeartbeats 4000000 in
theorem ec_X6 {b : List aC} (hb : clH b) {L : Nat} (hL : b.length = L) : Ev mX6_init 2 10 406 [.ref L] (b ++ [.inr (6, [.null, .null, .null])]) (pq none (fun h2 => h2 = b ++ stateC L ∧ clH h2)) := by
  have hc : clH (b ++ [.inr (6, [.null, .null, .null])]) := hb.app (fun e he => by rw [List.mem_singleton.mp he]; exact fun v hv => (dcX6 v hv).le (Nat.zero_le _))
  refine Ev.of pX6_init (Nat.le_of_ble_eq_true rfl) ?_
  show G mX6_init (rmD 2 10 406) none _ 0 0 0 [(0, .ref L)] [] (b ++ .inr (6, [.null, .null, .null]) :: [])
  have hlen : List.length (α := aC) (b ++ .inr (6, [.null, .null, .null]) :: []) = L + 1 := len_at hL rfl
  refine g_aload_n dX6_init_0 0 rfl ?_
  refine g_objInit dX6_init_1 wmX6_3 (Nat.le_of_ble_eq_true rfl) ⟨Nat.le_of_ble_eq_true rfl, Nat.le_of_ble_eq_true rfl⟩ ?_
  refine g_aload_n dX6_init_4 0 rfl ?_
  have hc0 := hc
  refine g_new (ds := [.null, .null, .null, .int 0, .int 0]) dX6_init_5 kX3 wkX6_9 wtX3 wzX3 dvX3 (fun _ _ => rfl) dcX3 hc ⟨(show L < _ by rw [hlen]; omega), trivial⟩ ⟨(show L < _ by rw [hlen]; omega), trivial⟩ (Nat.le_of_ble_eq_true rfl) (Nat.le_of_ble_eq_true rfl) (fun hc => ?_)
  rw [hlen]
  have hlen2 : List.length (α := aC) ((b ++ .inr (6, [.null, .null, .null]) :: []) ++ [.inr (3, [.null, .null, .null, .int 0, .int 0])]) = L + 2 := by rw [List.length_append, hlen]; rfl
  refine g_dup dX6_init_8 rfl ?_
  refine g_initN (mc := 3) (ms := 18) dX6_init_9 (ec_X3 hc0 hlen) oX3_init rfl wiX3_init wqX6_11 ⟨Nat.le_of_ble_eq_true rfl, Nat.le_of_ble_eq_true rfl⟩ ⟨Nat.le_of_ble_eq_true rfl, Nat.le_of_ble_eq_true rfl⟩ (Nat.le_of_ble_eq_true rfl) ⟨(show L < _ by rw [hlen2]; omega), trivial⟩ ⟨(show L + 1 < _ by rw [hlen2]; omega), ⟨(show L < _ by rw [hlen2]; omega), trivial⟩⟩ (fun h1 q1 => ?_)
  obtain ⟨rfl, hc⟩ := q1
  rw [grow_at] at hc ⊢
  have hlen : List.length (α := aC) (b ++ .inr (6, [.null, .null, .null]) :: ([] ++ pairsC (L + 1))) = L + 5 := len_at hL rfl
  refine g_putF dX6_init_12 kX6 wfX6_12 (Nat.le_of_ble_eq_true rfl) rfl rfl rfl (fun _ _ => ⟨rfl, rfl⟩) (rd_at hL) (Nat.le_of_ble_eq_true rfl) (fs' := [.ref (L + 1), .null, .null]) rfl ?_
  have hc := clH_wr (kf := 0) (v := .ref (L + 1)) hc (rd_at hL) (show L + 1 < _ by rw [hlen]; omega)
  rw [wr_at hL] at hc ⊢
  have hc : clH (b ++ .inr (6, [.ref (L + 1), .null, .null]) :: ([] ++ pairsC (L + 1))) := hc
  have hlen : List.length (α := aC) (b ++ .inr (6, [.ref (L + 1), .null, .null]) :: ([] ++ pairsC (L + 1))) = L + 5 := len_at hL rfl
  refine g_aload_n dX6_init_15 0 rfl ?_
  have hc0 := hc
  refine g_new (ds := [.null, .null, .int 0]) dX6_init_16 kX7 wkX6_18 wtX7 wzX7 dvX7 (fun _ _ => rfl) dcX7 hc ⟨(show L < _ by rw [hlen]; omega), trivial⟩ ⟨(show L < _ by rw [hlen]; omega), trivial⟩ (Nat.le_of_ble_eq_true rfl) (Nat.le_of_ble_eq_true rfl) (fun hc => ?_)
  rw [hlen]
  have hlen2 : List.length (α := aC) ((b ++ .inr (6, [.ref (L + 1), .null, .null]) :: ([] ++ pairsC (L + 1))) ++ [.inr (7, [.null, .null, .int 0])]) = L + 6 := by rw [List.length_append, hlen]; rfl
  refine g_dup dX6_init_19 rfl ?_
  refine g_initN (mc := 2) (ms := 12) dX6_init_20 (ec_X7 hc0 hlen) oX7_init rfl wiX7_init wqX6_20 ⟨Nat.le_of_ble_eq_true rfl, Nat.le_of_ble_eq_true rfl⟩ ⟨Nat.le_of_ble_eq_true rfl, Nat.le_of_ble_eq_true rfl⟩ (Nat.le_of_ble_eq_true rfl) ⟨(show L < _ by rw [hlen2]; omega), trivial⟩ ⟨(show L + 5 < _ by rw [hlen2]; omega), ⟨(show L < _ by rw [hlen2]; omega), trivial⟩⟩ (fun h1 q1 => ?_)
  obtain ⟨rfl, hc⟩ := q1
  rw [grow_at] at hc ⊢
  have hlen : List.length (α := aC) (b ++ .inr (6, [.ref (L + 1), .null, .null]) :: (([] ++ pairsC (L + 1)) ++ turnsC (L + 5))) = L + 8 := len_at hL rfl
  refine g_putF dX6_init_23 kX6 wfX6_21 (Nat.le_of_ble_eq_true rfl) rfl rfl rfl (fun _ _ => ⟨rfl, rfl⟩) (rd_at hL) (Nat.le_of_ble_eq_true rfl) (fs' := [.ref (L + 1), .ref (L + 5), .null]) rfl ?_
  have hc := clH_wr (kf := 1) (v := .ref (L + 5)) hc (rd_at hL) (show L + 5 < _ by rw [hlen]; omega)
  rw [wr_at hL] at hc ⊢
  have hc : clH (b ++ .inr (6, [.ref (L + 1), .ref (L + 5), .null]) :: (([] ++ pairsC (L + 1)) ++ turnsC (L + 5))) := hc
  have hlen : List.length (α := aC) (b ++ .inr (6, [.ref (L + 1), .ref (L + 5), .null]) :: (([] ++ pairsC (L + 1)) ++ turnsC (L + 5))) = L + 8 := len_at hL rfl
  refine g_aload_n dX6_init_26 0 rfl ?_
  have hc0 := hc
  refine g_new (ds := [.null, .null, .int 0]) dX6_init_27 kX4 wkX6_25 wtX4 wzX4 dvX4 (fun _ _ => rfl) dcX4 hc ⟨(show L < _ by rw [hlen]; omega), trivial⟩ ⟨(show L < _ by rw [hlen]; omega), trivial⟩ (Nat.le_of_ble_eq_true rfl) (Nat.le_of_ble_eq_true rfl) (fun hc => ?_)
  rw [hlen]
  have hlen2 : List.length (α := aC) ((b ++ .inr (6, [.ref (L + 1), .ref (L + 5), .null]) :: (([] ++ pairsC (L + 1)) ++ turnsC (L + 5))) ++ [.inr (4, [.null, .null, .int 0])]) = L + 9 := by rw [List.length_append, hlen]; rfl
  refine g_dup dX6_init_30 rfl ?_
  refine g_initN (mc := 2) (ms := 365) dX6_init_31 (ec_X4 hc0 hlen) oX4_init rfl wiX4_init wqX6_27 ⟨Nat.le_of_ble_eq_true rfl, Nat.le_of_ble_eq_true rfl⟩ ⟨Nat.le_of_ble_eq_true rfl, Nat.le_of_ble_eq_true rfl⟩ (Nat.le_of_ble_eq_true rfl) ⟨(show L < _ by rw [hlen2]; omega), trivial⟩ ⟨(show L + 8 < _ by rw [hlen2]; omega), ⟨(show L < _ by rw [hlen2]; omega), trivial⟩⟩ (fun h1 q1 => ?_)
  obtain ⟨rfl, hc⟩ := q1
  rw [grow_at] at hc ⊢
  have hlen : List.length (α := aC) (b ++ .inr (6, [.ref (L + 1), .ref (L + 5), .null]) :: ((([] ++ pairsC (L + 1)) ++ turnsC (L + 5)) ++ roomC (L + 8))) = L + 11 := len_at hL rfl
  refine g_putF dX6_init_34 kX6 wfX6_28 (Nat.le_of_ble_eq_true rfl) rfl rfl rfl (fun _ _ => ⟨rfl, rfl⟩) (rd_at hL) (Nat.le_of_ble_eq_true rfl) (fs' := [.ref (L + 1), .ref (L + 5), .ref (L + 8)]) rfl ?_
  have hc := clH_wr (kf := 2) (v := .ref (L + 8)) hc (rd_at hL) (show L + 8 < _ by rw [hlen]; omega)
  rw [wr_at hL] at hc ⊢
  have hc : clH (b ++ .inr (6, [.ref (L + 1), .ref (L + 5), .ref (L + 8)]) :: ((([] ++ pairsC (L + 1)) ++ turnsC (L + 5)) ++ roomC (L + 8))) := hc
  have hlen : List.length (α := aC) (b ++ .inr (6, [.ref (L + 1), .ref (L + 5), .ref (L + 8)]) :: ((([] ++ pairsC (L + 1)) ++ turnsC (L + 5)) ++ roomC (L + 8))) = L + 11 := len_at hL rfl
  exact g_vret dX6_init_37 rfl ⟨Nat.le_of_ble_eq_true rfl, Nat.le_of_ble_eq_true rfl⟩ ⟨rfl, rfl, hc⟩

set_option maxRecDepth 100000 in
set_option maxHeartbeats 4000000 in
theorem ec_X5 {b : List aC} (hb : clH b) {L : Nat} (hL : b.length = L) : Ev mX5_init 2 4 23 [.ref L] (b ++ [.inr (5, [.null, .int 0, .int 0, .int 0, .int 0])]) (pq none (fun h2 => h2 = b ++ searchC L ∧ clH h2)) := by
  have hc : clH (b ++ [.inr (5, [.null, .int 0, .int 0, .int 0, .int 0])]) := hb.app (fun e he => by rw [List.mem_singleton.mp he]; exact fun v hv => (dcX5 v hv).le (Nat.zero_le _))
  refine Ev.of pX5_init (Nat.le_of_ble_eq_true rfl) ?_
  show G mX5_init (rmD 2 4 23) none _ 0 0 0 [(0, .ref L)] [] (b ++ .inr (5, [.null, .int 0, .int 0, .int 0, .int 0]) :: [])
  have hlen : List.length (α := aC) (b ++ .inr (5, [.null, .int 0, .int 0, .int 0, .int 0]) :: []) = L + 1 := len_at hL rfl
  refine g_aload_n dX5_init_0 0 rfl ?_
  refine g_objInit dX5_init_1 wmX5_1 (Nat.le_of_ble_eq_true rfl) ⟨Nat.le_of_ble_eq_true rfl, Nat.le_of_ble_eq_true rfl⟩ ?_
  refine g_aload_n dX5_init_4 0 rfl ?_
  have hc0 := hc
  refine g_new (ds := [.null, .null, .null, .int 0, .int 0]) dX5_init_5 kX3 wkX5_7 wtX3 wzX3 dvX3 (fun _ _ => rfl) dcX3 hc ⟨(show L < _ by rw [hlen]; omega), trivial⟩ ⟨(show L < _ by rw [hlen]; omega), trivial⟩ (Nat.le_of_ble_eq_true rfl) (Nat.le_of_ble_eq_true rfl) (fun hc => ?_)
  rw [hlen]
  have hlen2 : List.length (α := aC) ((b ++ .inr (5, [.null, .int 0, .int 0, .int 0, .int 0]) :: []) ++ [.inr (3, [.null, .null, .null, .int 0, .int 0])]) = L + 2 := by rw [List.length_append, hlen]; rfl
  refine g_dup dX5_init_8 rfl ?_
  refine g_initN (mc := 3) (ms := 18) dX5_init_9 (ec_X3 hc0 hlen) oX3_init rfl wiX3_init wqX5_9 ⟨Nat.le_of_ble_eq_true rfl, Nat.le_of_ble_eq_true rfl⟩ ⟨Nat.le_of_ble_eq_true rfl, Nat.le_of_ble_eq_true rfl⟩ (Nat.le_of_ble_eq_true rfl) ⟨(show L < _ by rw [hlen2]; omega), trivial⟩ ⟨(show L + 1 < _ by rw [hlen2]; omega), ⟨(show L < _ by rw [hlen2]; omega), trivial⟩⟩ (fun h1 q1 => ?_)
  obtain ⟨rfl, hc⟩ := q1
  rw [grow_at] at hc ⊢
  have hlen : List.length (α := aC) (b ++ .inr (5, [.null, .int 0, .int 0, .int 0, .int 0]) :: ([] ++ pairsC (L + 1))) = L + 5 := len_at hL rfl
  refine g_putF dX5_init_12 kX5 wfX5_10 (Nat.le_of_ble_eq_true rfl) rfl rfl rfl (fun _ _ => ⟨rfl, rfl⟩) (rd_at hL) (Nat.le_of_ble_eq_true rfl) (fs' := [.ref (L + 1), .int 0, .int 0, .int 0, .int 0]) rfl ?_
  have hc := clH_wr (kf := 0) (v := .ref (L + 1)) hc (rd_at hL) (show L + 1 < _ by rw [hlen]; omega)
  rw [wr_at hL] at hc ⊢
  have hc : clH (b ++ .inr (5, [.ref (L + 1), .int 0, .int 0, .int 0, .int 0]) :: ([] ++ pairsC (L + 1))) := hc
  have hlen : List.length (α := aC) (b ++ .inr (5, [.ref (L + 1), .int 0, .int 0, .int 0, .int 0]) :: ([] ++ pairsC (L + 1))) = L + 5 := len_at hL rfl
  refine g_aload_n dX5_init_15 0 rfl ?_
  refine g_iconst (v := (-1)) dX5_init_16 (by decide +kernel) ?_
  refine g_put dX5_init_17 kX5 wfX5_16 (Nat.le_of_ble_eq_true rfl) rfl (fun _ _ => ⟨rfl, rfl⟩) (rd_at hL) (Nat.le_of_ble_eq_true rfl) (fs' := [.ref (L + 1), .int (-1), .int 0, .int 0, .int 0]) rfl ?_
  have hc := clH_wr (kf := 1) (v := .int (-1)) hc (rd_at hL) trivial
  rw [wr_at hL] at hc ⊢
  have hc : clH (b ++ .inr (5, [.ref (L + 1), .int (-1), .int 0, .int 0, .int 0]) :: ([] ++ pairsC (L + 1))) := hc
  have hlen : List.length (α := aC) (b ++ .inr (5, [.ref (L + 1), .int (-1), .int 0, .int 0, .int 0]) :: ([] ++ pairsC (L + 1))) = L + 5 := len_at hL rfl
  refine g_aload_n dX5_init_20 0 rfl ?_
  refine g_iconst (v := nI 0) dX5_init_21 (by decide +kernel) ?_
  refine g_put dX5_init_22 kX5 wfX5_20 (Nat.le_of_ble_eq_true rfl) rfl (fun _ _ => ⟨rfl, rfl⟩) (rd_at hL) (Nat.le_of_ble_eq_true rfl) (fs' := [.ref (L + 1), .int (-1), .int (nI 0), .int 0, .int 0]) rfl ?_
  have hc := clH_wr (kf := 2) (v := .int (nI 0)) hc (rd_at hL) trivial
  rw [wr_at hL] at hc ⊢
  have hc : clH (b ++ .inr (5, [.ref (L + 1), .int (-1), .int (nI 0), .int 0, .int 0]) :: ([] ++ pairsC (L + 1))) := hc
  have hlen : List.length (α := aC) (b ++ .inr (5, [.ref (L + 1), .int (-1), .int (nI 0), .int 0, .int 0]) :: ([] ++ pairsC (L + 1))) = L + 5 := len_at hL rfl
  refine g_aload_n dX5_init_25 0 rfl ?_
  refine g_iconst (v := nI 0) dX5_init_26 (by decide +kernel) ?_
  refine g_put dX5_init_27 kX5 wfX5_23 (Nat.le_of_ble_eq_true rfl) rfl (fun _ _ => ⟨rfl, rfl⟩) (rd_at hL) (Nat.le_of_ble_eq_true rfl) (fs' := [.ref (L + 1), .int (-1), .int (nI 0), .int (nI 0), .int 0]) rfl ?_
  have hc := clH_wr (kf := 3) (v := .int (nI 0)) hc (rd_at hL) trivial
  rw [wr_at hL] at hc ⊢
  have hc : clH (b ++ .inr (5, [.ref (L + 1), .int (-1), .int (nI 0), .int (nI 0), .int 0]) :: ([] ++ pairsC (L + 1))) := hc
  have hlen : List.length (α := aC) (b ++ .inr (5, [.ref (L + 1), .int (-1), .int (nI 0), .int (nI 0), .int 0]) :: ([] ++ pairsC (L + 1))) = L + 5 := len_at hL rfl
  refine g_aload_n dX5_init_30 0 rfl ?_
  refine g_iconst (v := nI 0) dX5_init_31 (by decide +kernel) ?_
  refine g_put dX5_init_32 kX5 wfX5_26 (Nat.le_of_ble_eq_true rfl) rfl (fun _ _ => ⟨rfl, rfl⟩) (rd_at hL) (Nat.le_of_ble_eq_true rfl) (fs' := [.ref (L + 1), .int (-1), .int (nI 0), .int (nI 0), .int (nI 0)]) rfl ?_
  have hc := clH_wr (kf := 4) (v := .int (nI 0)) hc (rd_at hL) trivial
  rw [wr_at hL] at hc ⊢
  have hc : clH (b ++ .inr (5, [.ref (L + 1), .int (-1), .int (nI 0), .int (nI 0), .int (nI 0)]) :: ([] ++ pairsC (L + 1))) := hc
  have hlen : List.length (α := aC) (b ++ .inr (5, [.ref (L + 1), .int (-1), .int (nI 0), .int (nI 0), .int (nI 0)]) :: ([] ++ pairsC (L + 1))) = L + 5 := len_at hL rfl
  exact g_vret dX5_init_35 rfl ⟨Nat.le_of_ble_eq_true rfl, Nat.le_of_ble_eq_true rfl⟩ ⟨rfl, rfl, hc⟩

set_option maxRecDepth 100000 in
set_option maxHeartbeats 4000000 in
theorem ec_X8 {b : List aC} (hb : clH b) {L : Nat} (hL : b.length = L) : Ev mX8_init 3 97 1793 [.ref L] (b ++ [.inr (8, [.null, .null, .null, .int 0, .null, .null, .null, .null, .null, .null, .null])]) (pq none (fun h2 => h2 = b ++ objC L ∧ clH h2)) := by
  have hc : clH (b ++ [.inr (8, [.null, .null, .null, .int 0, .null, .null, .null, .null, .null, .null, .null])]) := hb.app (fun e he => by rw [List.mem_singleton.mp he]; exact fun v hv => (dcX8 v hv).le (Nat.zero_le _))
  refine Ev.of pX8_init (Nat.le_of_ble_eq_true rfl) ?_
  show G mX8_init (rmD 3 97 1793) none _ 0 0 0 [(0, .ref L)] [] (b ++ .inr (8, [.null, .null, .null, .int 0, .null, .null, .null, .null, .null, .null, .null]) :: [])
  have hlen : List.length (α := aC) (b ++ .inr (8, [.null, .null, .null, .int 0, .null, .null, .null, .null, .null, .null, .null]) :: []) = L + 1 := len_at hL rfl
  refine g_aload_n dX8_init_0 0 rfl ?_
  refine g_objInit dX8_init_1 wmX8_1 (Nat.le_of_ble_eq_true rfl) ⟨Nat.le_of_ble_eq_true rfl, Nat.le_of_ble_eq_true rfl⟩ ?_
  refine g_aload_n dX8_init_4 0 rfl ?_
  have hc0 := hc
  refine g_new (ds := [.null, .null, .null]) dX8_init_5 kX6 wkX8_7 wtX6 wzX6 dvX6 (fun _ _ => rfl) dcX6 hc ⟨(show L < _ by rw [hlen]; omega), trivial⟩ ⟨(show L < _ by rw [hlen]; omega), trivial⟩ (Nat.le_of_ble_eq_true rfl) (Nat.le_of_ble_eq_true rfl) (fun hc => ?_)
  rw [hlen]
  have hlen2 : List.length (α := aC) ((b ++ .inr (8, [.null, .null, .null, .int 0, .null, .null, .null, .null, .null, .null, .null]) :: []) ++ [.inr (6, [.null, .null, .null])]) = L + 2 := by rw [List.length_append, hlen]; rfl
  refine g_dup dX8_init_8 rfl ?_
  refine g_initN (mc := 10) (ms := 406) dX8_init_9 (ec_X6 hc0 hlen) oX6_init rfl wiX6_init wqX8_9 ⟨Nat.le_of_ble_eq_true rfl, Nat.le_of_ble_eq_true rfl⟩ ⟨Nat.le_of_ble_eq_true rfl, Nat.le_of_ble_eq_true rfl⟩ (Nat.le_of_ble_eq_true rfl) ⟨(show L < _ by rw [hlen2]; omega), trivial⟩ ⟨(show L + 1 < _ by rw [hlen2]; omega), ⟨(show L < _ by rw [hlen2]; omega), trivial⟩⟩ (fun h1 q1 => ?_)
  obtain ⟨rfl, hc⟩ := q1
  rw [grow_at] at hc ⊢
  have hlen : List.length (α := aC) (b ++ .inr (8, [.null, .null, .null, .int 0, .null, .null, .null, .null, .null, .null, .null]) :: ([] ++ stateC (L + 1))) = L + 12 := len_at hL rfl
  refine g_putF dX8_init_12 kX8 wfX8_10 (Nat.le_of_ble_eq_true rfl) rfl rfl rfl (fun _ _ => ⟨rfl, rfl⟩) (rd_at hL) (Nat.le_of_ble_eq_true rfl) (fs' := [.ref (L + 1), .null, .null, .int 0, .null, .null, .null, .null, .null, .null, .null]) rfl ?_
  have hc := clH_wr (kf := 0) (v := .ref (L + 1)) hc (rd_at hL) (show L + 1 < _ by rw [hlen]; omega)
  rw [wr_at hL] at hc ⊢
  have hc : clH (b ++ .inr (8, [.ref (L + 1), .null, .null, .int 0, .null, .null, .null, .null, .null, .null, .null]) :: ([] ++ stateC (L + 1))) := hc
  have hlen : List.length (α := aC) (b ++ .inr (8, [.ref (L + 1), .null, .null, .int 0, .null, .null, .null, .null, .null, .null, .null]) :: ([] ++ stateC (L + 1))) = L + 12 := len_at hL rfl
  refine g_aload_n dX8_init_15 0 rfl ?_
  have hc0 := hc
  refine g_new (ds := [.null, .null, .null]) dX8_init_16 kX6 wkX8_7 wtX6 wzX6 dvX6 (fun _ _ => rfl) dcX6 hc ⟨(show L < _ by rw [hlen]; omega), trivial⟩ ⟨(show L < _ by rw [hlen]; omega), trivial⟩ (Nat.le_of_ble_eq_true rfl) (Nat.le_of_ble_eq_true rfl) (fun hc => ?_)
  rw [hlen]
  have hlen2 : List.length (α := aC) ((b ++ .inr (8, [.ref (L + 1), .null, .null, .int 0, .null, .null, .null, .null, .null, .null, .null]) :: ([] ++ stateC (L + 1))) ++ [.inr (6, [.null, .null, .null])]) = L + 13 := by rw [List.length_append, hlen]; rfl
  refine g_dup dX8_init_19 rfl ?_
  refine g_initN (mc := 10) (ms := 406) dX8_init_20 (ec_X6 hc0 hlen) oX6_init rfl wiX6_init wqX8_9 ⟨Nat.le_of_ble_eq_true rfl, Nat.le_of_ble_eq_true rfl⟩ ⟨Nat.le_of_ble_eq_true rfl, Nat.le_of_ble_eq_true rfl⟩ (Nat.le_of_ble_eq_true rfl) ⟨(show L < _ by rw [hlen2]; omega), trivial⟩ ⟨(show L + 12 < _ by rw [hlen2]; omega), ⟨(show L < _ by rw [hlen2]; omega), trivial⟩⟩ (fun h1 q1 => ?_)
  obtain ⟨rfl, hc⟩ := q1
  rw [grow_at] at hc ⊢
  have hlen : List.length (α := aC) (b ++ .inr (8, [.ref (L + 1), .null, .null, .int 0, .null, .null, .null, .null, .null, .null, .null]) :: (([] ++ stateC (L + 1)) ++ stateC (L + 12))) = L + 23 := len_at hL rfl
  refine g_putF dX8_init_23 kX8 wfX8_16 (Nat.le_of_ble_eq_true rfl) rfl rfl rfl (fun _ _ => ⟨rfl, rfl⟩) (rd_at hL) (Nat.le_of_ble_eq_true rfl) (fs' := [.ref (L + 1), .ref (L + 12), .null, .int 0, .null, .null, .null, .null, .null, .null, .null]) rfl ?_
  have hc := clH_wr (kf := 1) (v := .ref (L + 12)) hc (rd_at hL) (show L + 12 < _ by rw [hlen]; omega)
  rw [wr_at hL] at hc ⊢
  have hc : clH (b ++ .inr (8, [.ref (L + 1), .ref (L + 12), .null, .int 0, .null, .null, .null, .null, .null, .null, .null]) :: (([] ++ stateC (L + 1)) ++ stateC (L + 12))) := hc
  have hlen : List.length (α := aC) (b ++ .inr (8, [.ref (L + 1), .ref (L + 12), .null, .int 0, .null, .null, .null, .null, .null, .null, .null]) :: (([] ++ stateC (L + 1)) ++ stateC (L + 12))) = L + 23 := len_at hL rfl
  refine g_aload_n dX8_init_26 0 rfl ?_
  have hc0 := hc
  refine g_new (ds := [.null, .null, .null]) dX8_init_27 kX6 wkX8_7 wtX6 wzX6 dvX6 (fun _ _ => rfl) dcX6 hc ⟨(show L < _ by rw [hlen]; omega), trivial⟩ ⟨(show L < _ by rw [hlen]; omega), trivial⟩ (Nat.le_of_ble_eq_true rfl) (Nat.le_of_ble_eq_true rfl) (fun hc => ?_)
  rw [hlen]
  have hlen2 : List.length (α := aC) ((b ++ .inr (8, [.ref (L + 1), .ref (L + 12), .null, .int 0, .null, .null, .null, .null, .null, .null, .null]) :: (([] ++ stateC (L + 1)) ++ stateC (L + 12))) ++ [.inr (6, [.null, .null, .null])]) = L + 24 := by rw [List.length_append, hlen]; rfl
  refine g_dup dX8_init_30 rfl ?_
  refine g_initN (mc := 10) (ms := 406) dX8_init_31 (ec_X6 hc0 hlen) oX6_init rfl wiX6_init wqX8_9 ⟨Nat.le_of_ble_eq_true rfl, Nat.le_of_ble_eq_true rfl⟩ ⟨Nat.le_of_ble_eq_true rfl, Nat.le_of_ble_eq_true rfl⟩ (Nat.le_of_ble_eq_true rfl) ⟨(show L < _ by rw [hlen2]; omega), trivial⟩ ⟨(show L + 23 < _ by rw [hlen2]; omega), ⟨(show L < _ by rw [hlen2]; omega), trivial⟩⟩ (fun h1 q1 => ?_)
  obtain ⟨rfl, hc⟩ := q1
  rw [grow_at] at hc ⊢
  have hlen : List.length (α := aC) (b ++ .inr (8, [.ref (L + 1), .ref (L + 12), .null, .int 0, .null, .null, .null, .null, .null, .null, .null]) :: ((([] ++ stateC (L + 1)) ++ stateC (L + 12)) ++ stateC (L + 23))) = L + 34 := len_at hL rfl
  refine g_putF dX8_init_34 kX8 wfX8_19 (Nat.le_of_ble_eq_true rfl) rfl rfl rfl (fun _ _ => ⟨rfl, rfl⟩) (rd_at hL) (Nat.le_of_ble_eq_true rfl) (fs' := [.ref (L + 1), .ref (L + 12), .ref (L + 23), .int 0, .null, .null, .null, .null, .null, .null, .null]) rfl ?_
  have hc := clH_wr (kf := 2) (v := .ref (L + 23)) hc (rd_at hL) (show L + 23 < _ by rw [hlen]; omega)
  rw [wr_at hL] at hc ⊢
  have hc : clH (b ++ .inr (8, [.ref (L + 1), .ref (L + 12), .ref (L + 23), .int 0, .null, .null, .null, .null, .null, .null, .null]) :: ((([] ++ stateC (L + 1)) ++ stateC (L + 12)) ++ stateC (L + 23))) := hc
  have hlen : List.length (α := aC) (b ++ .inr (8, [.ref (L + 1), .ref (L + 12), .ref (L + 23), .int 0, .null, .null, .null, .null, .null, .null, .null]) :: ((([] ++ stateC (L + 1)) ++ stateC (L + 12)) ++ stateC (L + 23))) = L + 34 := len_at hL rfl
  refine g_aload_n dX8_init_37 0 rfl ?_
  refine g_iconst (v := nI 0) dX8_init_38 (by decide +kernel) ?_
  refine g_put dX8_init_39 kX8 wfX8_22 (Nat.le_of_ble_eq_true rfl) rfl (fun _ _ => ⟨rfl, rfl⟩) (rd_at hL) (Nat.le_of_ble_eq_true rfl) (fs' := [.ref (L + 1), .ref (L + 12), .ref (L + 23), .int (nI 0), .null, .null, .null, .null, .null, .null, .null]) rfl ?_
  have hc := clH_wr (kf := 3) (v := .int (nI 0)) hc (rd_at hL) trivial
  rw [wr_at hL] at hc ⊢
  have hc : clH (b ++ .inr (8, [.ref (L + 1), .ref (L + 12), .ref (L + 23), .int (nI 0), .null, .null, .null, .null, .null, .null, .null]) :: ((([] ++ stateC (L + 1)) ++ stateC (L + 12)) ++ stateC (L + 23))) := hc
  have hlen : List.length (α := aC) (b ++ .inr (8, [.ref (L + 1), .ref (L + 12), .ref (L + 23), .int (nI 0), .null, .null, .null, .null, .null, .null, .null]) :: ((([] ++ stateC (L + 1)) ++ stateC (L + 12)) ++ stateC (L + 23))) = L + 34 := len_at hL rfl
  refine g_aload_n dX8_init_42 0 rfl ?_
  have hc0 := hc
  refine g_new (ds := [.null, .int 0]) dX8_init_43 kX1 wkX8_26 wtX1 wzX1 dvX1 (fun _ _ => rfl) dcX1 hc ⟨(show L < _ by rw [hlen]; omega), trivial⟩ ⟨(show L < _ by rw [hlen]; omega), trivial⟩ (Nat.le_of_ble_eq_true rfl) (Nat.le_of_ble_eq_true rfl) (fun hc => ?_)
  rw [hlen]
  have hlen2 : List.length (α := aC) ((b ++ .inr (8, [.ref (L + 1), .ref (L + 12), .ref (L + 23), .int (nI 0), .null, .null, .null, .null, .null, .null, .null]) :: ((([] ++ stateC (L + 1)) ++ stateC (L + 12)) ++ stateC (L + 23))) ++ [.inr (1, [.null, .int 0])]) = L + 35 := by rw [List.length_append, hlen]; rfl
  refine g_dup dX8_init_46 rfl ?_
  refine g_initN (mc := 1) (ms := 72) dX8_init_47 (ec_X1 hc0 hlen) oX1_init rfl wiX1_init wqX8_28 ⟨Nat.le_of_ble_eq_true rfl, Nat.le_of_ble_eq_true rfl⟩ ⟨Nat.le_of_ble_eq_true rfl, Nat.le_of_ble_eq_true rfl⟩ (Nat.le_of_ble_eq_true rfl) ⟨(show L < _ by rw [hlen2]; omega), trivial⟩ ⟨(show L + 34 < _ by rw [hlen2]; omega), ⟨(show L < _ by rw [hlen2]; omega), trivial⟩⟩ (fun h1 q1 => ?_)
  obtain ⟨rfl, hc⟩ := q1
  rw [grow_at] at hc ⊢
  have hlen : List.length (α := aC) (b ++ .inr (8, [.ref (L + 1), .ref (L + 12), .ref (L + 23), .int (nI 0), .null, .null, .null, .null, .null, .null, .null]) :: (((([] ++ stateC (L + 1)) ++ stateC (L + 12)) ++ stateC (L + 23)) ++ lettersC (L + 34))) = L + 36 := len_at hL rfl
  refine g_putF dX8_init_50 kX8 wfX8_29 (Nat.le_of_ble_eq_true rfl) rfl rfl rfl (fun _ _ => ⟨rfl, rfl⟩) (rd_at hL) (Nat.le_of_ble_eq_true rfl) (fs' := [.ref (L + 1), .ref (L + 12), .ref (L + 23), .int (nI 0), .ref (L + 34), .null, .null, .null, .null, .null, .null]) rfl ?_
  have hc := clH_wr (kf := 4) (v := .ref (L + 34)) hc (rd_at hL) (show L + 34 < _ by rw [hlen]; omega)
  rw [wr_at hL] at hc ⊢
  have hc : clH (b ++ .inr (8, [.ref (L + 1), .ref (L + 12), .ref (L + 23), .int (nI 0), .ref (L + 34), .null, .null, .null, .null, .null, .null]) :: (((([] ++ stateC (L + 1)) ++ stateC (L + 12)) ++ stateC (L + 23)) ++ lettersC (L + 34))) := hc
  have hlen : List.length (α := aC) (b ++ .inr (8, [.ref (L + 1), .ref (L + 12), .ref (L + 23), .int (nI 0), .ref (L + 34), .null, .null, .null, .null, .null, .null]) :: (((([] ++ stateC (L + 1)) ++ stateC (L + 12)) ++ stateC (L + 23)) ++ lettersC (L + 34))) = L + 36 := len_at hL rfl
  refine g_aload_n dX8_init_53 0 rfl ?_
  have hc0 := hc
  refine g_new (ds := [.null, .null]) dX8_init_54 kX2 wkX8_33 wtX2 wzX2 dvX2 (fun _ _ => rfl) dcX2 hc ⟨(show L < _ by rw [hlen]; omega), trivial⟩ ⟨(show L < _ by rw [hlen]; omega), trivial⟩ (Nat.le_of_ble_eq_true rfl) (Nat.le_of_ble_eq_true rfl) (fun hc => ?_)
  rw [hlen]
  have hlen2 : List.length (α := aC) ((b ++ .inr (8, [.ref (L + 1), .ref (L + 12), .ref (L + 23), .int (nI 0), .ref (L + 34), .null, .null, .null, .null, .null, .null]) :: (((([] ++ stateC (L + 1)) ++ stateC (L + 12)) ++ stateC (L + 23)) ++ lettersC (L + 34))) ++ [.inr (2, [.null, .null])]) = L + 37 := by rw [List.length_append, hlen]; rfl
  refine g_dup dX8_init_57 rfl ?_
  refine g_initN (mc := 5) (ms := 126) dX8_init_58 (ec_X2 hc0 hlen) oX2_init rfl wiX2_init wqX8_35 ⟨Nat.le_of_ble_eq_true rfl, Nat.le_of_ble_eq_true rfl⟩ ⟨Nat.le_of_ble_eq_true rfl, Nat.le_of_ble_eq_true rfl⟩ (Nat.le_of_ble_eq_true rfl) ⟨(show L < _ by rw [hlen2]; omega), trivial⟩ ⟨(show L + 36 < _ by rw [hlen2]; omega), ⟨(show L < _ by rw [hlen2]; omega), trivial⟩⟩ (fun h1 q1 => ?_)
  obtain ⟨rfl, hc⟩ := q1
  rw [grow_at] at hc ⊢
  have hlen : List.length (α := aC) (b ++ .inr (8, [.ref (L + 1), .ref (L + 12), .ref (L + 23), .int (nI 0), .ref (L + 34), .null, .null, .null, .null, .null, .null]) :: ((((([] ++ stateC (L + 1)) ++ stateC (L + 12)) ++ stateC (L + 23)) ++ lettersC (L + 34)) ++ listsC (L + 36))) = L + 42 := len_at hL rfl
  refine g_putF dX8_init_61 kX8 wfX8_36 (Nat.le_of_ble_eq_true rfl) rfl rfl rfl (fun _ _ => ⟨rfl, rfl⟩) (rd_at hL) (Nat.le_of_ble_eq_true rfl) (fs' := [.ref (L + 1), .ref (L + 12), .ref (L + 23), .int (nI 0), .ref (L + 34), .ref (L + 36), .null, .null, .null, .null, .null]) rfl ?_
  have hc := clH_wr (kf := 5) (v := .ref (L + 36)) hc (rd_at hL) (show L + 36 < _ by rw [hlen]; omega)
  rw [wr_at hL] at hc ⊢
  have hc : clH (b ++ .inr (8, [.ref (L + 1), .ref (L + 12), .ref (L + 23), .int (nI 0), .ref (L + 34), .ref (L + 36), .null, .null, .null, .null, .null]) :: ((((([] ++ stateC (L + 1)) ++ stateC (L + 12)) ++ stateC (L + 23)) ++ lettersC (L + 34)) ++ listsC (L + 36))) := hc
  have hlen : List.length (α := aC) (b ++ .inr (8, [.ref (L + 1), .ref (L + 12), .ref (L + 23), .int (nI 0), .ref (L + 34), .ref (L + 36), .null, .null, .null, .null, .null]) :: ((((([] ++ stateC (L + 1)) ++ stateC (L + 12)) ++ stateC (L + 23)) ++ lettersC (L + 34)) ++ listsC (L + 36))) = L + 42 := len_at hL rfl
  refine g_aload_n dX8_init_64 0 rfl ?_
  have hc0 := hc
  refine g_new (ds := [.null, .null, .null, .null, .null, .int 0, .int 0]) dX8_init_65 kX0 wkX8_40 wtX0 wzX0 dvX0 (fun _ _ => rfl) dcX0 hc ⟨(show L < _ by rw [hlen]; omega), trivial⟩ ⟨(show L < _ by rw [hlen]; omega), trivial⟩ (Nat.le_of_ble_eq_true rfl) (Nat.le_of_ble_eq_true rfl) (fun hc => ?_)
  rw [hlen]
  have hlen2 : List.length (α := aC) ((b ++ .inr (8, [.ref (L + 1), .ref (L + 12), .ref (L + 23), .int (nI 0), .ref (L + 34), .ref (L + 36), .null, .null, .null, .null, .null]) :: ((((([] ++ stateC (L + 1)) ++ stateC (L + 12)) ++ stateC (L + 23)) ++ lettersC (L + 34)) ++ listsC (L + 36))) ++ [.inr (0, [.null, .null, .null, .null, .null, .int 0, .int 0])]) = L + 43 := by rw [List.length_append, hlen]; rfl
  refine g_dup dX8_init_68 rfl ?_
  refine g_initN (mc := 41) (ms := 276) dX8_init_69 (ec_X0 hc0 hlen) oX0_init rfl wiX0_init wqX8_42 ⟨Nat.le_of_ble_eq_true rfl, Nat.le_of_ble_eq_true rfl⟩ ⟨Nat.le_of_ble_eq_true rfl, Nat.le_of_ble_eq_true rfl⟩ (Nat.le_of_ble_eq_true rfl) ⟨(show L < _ by rw [hlen2]; omega), trivial⟩ ⟨(show L + 42 < _ by rw [hlen2]; omega), ⟨(show L < _ by rw [hlen2]; omega), trivial⟩⟩ (fun h1 q1 => ?_)
  obtain ⟨rfl, hc⟩ := q1
  rw [grow_at] at hc ⊢
  have hlen : List.length (α := aC) (b ++ .inr (8, [.ref (L + 1), .ref (L + 12), .ref (L + 23), .int (nI 0), .ref (L + 34), .ref (L + 36), .null, .null, .null, .null, .null]) :: (((((([] ++ stateC (L + 1)) ++ stateC (L + 12)) ++ stateC (L + 23)) ++ lettersC (L + 34)) ++ listsC (L + 36)) ++ histC (L + 42))) = L + 84 := len_at hL rfl
  refine g_putF dX8_init_72 kX8 wfX8_43 (Nat.le_of_ble_eq_true rfl) rfl rfl rfl (fun _ _ => ⟨rfl, rfl⟩) (rd_at hL) (Nat.le_of_ble_eq_true rfl) (fs' := [.ref (L + 1), .ref (L + 12), .ref (L + 23), .int (nI 0), .ref (L + 34), .ref (L + 36), .ref (L + 42), .null, .null, .null, .null]) rfl ?_
  have hc := clH_wr (kf := 6) (v := .ref (L + 42)) hc (rd_at hL) (show L + 42 < _ by rw [hlen]; omega)
  rw [wr_at hL] at hc ⊢
  have hc : clH (b ++ .inr (8, [.ref (L + 1), .ref (L + 12), .ref (L + 23), .int (nI 0), .ref (L + 34), .ref (L + 36), .ref (L + 42), .null, .null, .null, .null]) :: (((((([] ++ stateC (L + 1)) ++ stateC (L + 12)) ++ stateC (L + 23)) ++ lettersC (L + 34)) ++ listsC (L + 36)) ++ histC (L + 42))) := hc
  have hlen : List.length (α := aC) (b ++ .inr (8, [.ref (L + 1), .ref (L + 12), .ref (L + 23), .int (nI 0), .ref (L + 34), .ref (L + 36), .ref (L + 42), .null, .null, .null, .null]) :: (((((([] ++ stateC (L + 1)) ++ stateC (L + 12)) ++ stateC (L + 23)) ++ lettersC (L + 34)) ++ listsC (L + 36)) ++ histC (L + 42))) = L + 84 := len_at hL rfl
  refine g_aload_n dX8_init_75 0 rfl ?_
  have hc0 := hc
  refine g_new (ds := [.null, .int 0, .int 0, .int 0, .int 0]) dX8_init_76 kX5 wkX8_47 wtX5 wzX5 dvX5 (fun _ _ => rfl) dcX5 hc ⟨(show L < _ by rw [hlen]; omega), trivial⟩ ⟨(show L < _ by rw [hlen]; omega), trivial⟩ (Nat.le_of_ble_eq_true rfl) (Nat.le_of_ble_eq_true rfl) (fun hc => ?_)
  rw [hlen]
  have hlen2 : List.length (α := aC) ((b ++ .inr (8, [.ref (L + 1), .ref (L + 12), .ref (L + 23), .int (nI 0), .ref (L + 34), .ref (L + 36), .ref (L + 42), .null, .null, .null, .null]) :: (((((([] ++ stateC (L + 1)) ++ stateC (L + 12)) ++ stateC (L + 23)) ++ lettersC (L + 34)) ++ listsC (L + 36)) ++ histC (L + 42))) ++ [.inr (5, [.null, .int 0, .int 0, .int 0, .int 0])]) = L + 85 := by rw [List.length_append, hlen]; rfl
  refine g_dup dX8_init_79 rfl ?_
  refine g_initN (mc := 4) (ms := 23) dX8_init_80 (ec_X5 hc0 hlen) oX5_init rfl wiX5_init wqX8_49 ⟨Nat.le_of_ble_eq_true rfl, Nat.le_of_ble_eq_true rfl⟩ ⟨Nat.le_of_ble_eq_true rfl, Nat.le_of_ble_eq_true rfl⟩ (Nat.le_of_ble_eq_true rfl) ⟨(show L < _ by rw [hlen2]; omega), trivial⟩ ⟨(show L + 84 < _ by rw [hlen2]; omega), ⟨(show L < _ by rw [hlen2]; omega), trivial⟩⟩ (fun h1 q1 => ?_)
  obtain ⟨rfl, hc⟩ := q1
  rw [grow_at] at hc ⊢
  have hlen : List.length (α := aC) (b ++ .inr (8, [.ref (L + 1), .ref (L + 12), .ref (L + 23), .int (nI 0), .ref (L + 34), .ref (L + 36), .ref (L + 42), .null, .null, .null, .null]) :: ((((((([] ++ stateC (L + 1)) ++ stateC (L + 12)) ++ stateC (L + 23)) ++ lettersC (L + 34)) ++ listsC (L + 36)) ++ histC (L + 42)) ++ searchC (L + 84))) = L + 89 := len_at hL rfl
  refine g_putF dX8_init_83 kX8 wfX8_50 (Nat.le_of_ble_eq_true rfl) rfl rfl rfl (fun _ _ => ⟨rfl, rfl⟩) (rd_at hL) (Nat.le_of_ble_eq_true rfl) (fs' := [.ref (L + 1), .ref (L + 12), .ref (L + 23), .int (nI 0), .ref (L + 34), .ref (L + 36), .ref (L + 42), .ref (L + 84), .null, .null, .null]) rfl ?_
  have hc := clH_wr (kf := 7) (v := .ref (L + 84)) hc (rd_at hL) (show L + 84 < _ by rw [hlen]; omega)
  rw [wr_at hL] at hc ⊢
  have hc : clH (b ++ .inr (8, [.ref (L + 1), .ref (L + 12), .ref (L + 23), .int (nI 0), .ref (L + 34), .ref (L + 36), .ref (L + 42), .ref (L + 84), .null, .null, .null]) :: ((((((([] ++ stateC (L + 1)) ++ stateC (L + 12)) ++ stateC (L + 23)) ++ lettersC (L + 34)) ++ listsC (L + 36)) ++ histC (L + 42)) ++ searchC (L + 84))) := hc
  have hlen : List.length (α := aC) (b ++ .inr (8, [.ref (L + 1), .ref (L + 12), .ref (L + 23), .int (nI 0), .ref (L + 34), .ref (L + 36), .ref (L + 42), .ref (L + 84), .null, .null, .null]) :: ((((((([] ++ stateC (L + 1)) ++ stateC (L + 12)) ++ stateC (L + 23)) ++ lettersC (L + 34)) ++ listsC (L + 36)) ++ histC (L + 42)) ++ searchC (L + 84))) = L + 89 := len_at hL rfl
  refine g_aload_n dX8_init_86 0 rfl ?_
  have hc0 := hc
  refine g_new (ds := [.null, .null, .null, .int 0, .int 0]) dX8_init_87 kX3 wkX8_54 wtX3 wzX3 dvX3 (fun _ _ => rfl) dcX3 hc ⟨(show L < _ by rw [hlen]; omega), trivial⟩ ⟨(show L < _ by rw [hlen]; omega), trivial⟩ (Nat.le_of_ble_eq_true rfl) (Nat.le_of_ble_eq_true rfl) (fun hc => ?_)
  rw [hlen]
  have hlen2 : List.length (α := aC) ((b ++ .inr (8, [.ref (L + 1), .ref (L + 12), .ref (L + 23), .int (nI 0), .ref (L + 34), .ref (L + 36), .ref (L + 42), .ref (L + 84), .null, .null, .null]) :: ((((((([] ++ stateC (L + 1)) ++ stateC (L + 12)) ++ stateC (L + 23)) ++ lettersC (L + 34)) ++ listsC (L + 36)) ++ histC (L + 42)) ++ searchC (L + 84))) ++ [.inr (3, [.null, .null, .null, .int 0, .int 0])]) = L + 90 := by rw [List.length_append, hlen]; rfl
  refine g_dup dX8_init_90 rfl ?_
  refine g_initN (mc := 3) (ms := 18) dX8_init_91 (ec_X3 hc0 hlen) oX3_init rfl wiX3_init wqX8_56 ⟨Nat.le_of_ble_eq_true rfl, Nat.le_of_ble_eq_true rfl⟩ ⟨Nat.le_of_ble_eq_true rfl, Nat.le_of_ble_eq_true rfl⟩ (Nat.le_of_ble_eq_true rfl) ⟨(show L < _ by rw [hlen2]; omega), trivial⟩ ⟨(show L + 89 < _ by rw [hlen2]; omega), ⟨(show L < _ by rw [hlen2]; omega), trivial⟩⟩ (fun h1 q1 => ?_)
  obtain ⟨rfl, hc⟩ := q1
  rw [grow_at] at hc ⊢
  have hlen : List.length (α := aC) (b ++ .inr (8, [.ref (L + 1), .ref (L + 12), .ref (L + 23), .int (nI 0), .ref (L + 34), .ref (L + 36), .ref (L + 42), .ref (L + 84), .null, .null, .null]) :: (((((((([] ++ stateC (L + 1)) ++ stateC (L + 12)) ++ stateC (L + 23)) ++ lettersC (L + 34)) ++ listsC (L + 36)) ++ histC (L + 42)) ++ searchC (L + 84)) ++ pairsC (L + 89))) = L + 93 := len_at hL rfl
  refine g_putF dX8_init_94 kX8 wfX8_57 (Nat.le_of_ble_eq_true rfl) rfl rfl rfl (fun _ _ => ⟨rfl, rfl⟩) (rd_at hL) (Nat.le_of_ble_eq_true rfl) (fs' := [.ref (L + 1), .ref (L + 12), .ref (L + 23), .int (nI 0), .ref (L + 34), .ref (L + 36), .ref (L + 42), .ref (L + 84), .ref (L + 89), .null, .null]) rfl ?_
  have hc := clH_wr (kf := 8) (v := .ref (L + 89)) hc (rd_at hL) (show L + 89 < _ by rw [hlen]; omega)
  rw [wr_at hL] at hc ⊢
  have hc : clH (b ++ .inr (8, [.ref (L + 1), .ref (L + 12), .ref (L + 23), .int (nI 0), .ref (L + 34), .ref (L + 36), .ref (L + 42), .ref (L + 84), .ref (L + 89), .null, .null]) :: (((((((([] ++ stateC (L + 1)) ++ stateC (L + 12)) ++ stateC (L + 23)) ++ lettersC (L + 34)) ++ listsC (L + 36)) ++ histC (L + 42)) ++ searchC (L + 84)) ++ pairsC (L + 89))) := hc
  have hlen : List.length (α := aC) (b ++ .inr (8, [.ref (L + 1), .ref (L + 12), .ref (L + 23), .int (nI 0), .ref (L + 34), .ref (L + 36), .ref (L + 42), .ref (L + 84), .ref (L + 89), .null, .null]) :: (((((((([] ++ stateC (L + 1)) ++ stateC (L + 12)) ++ stateC (L + 23)) ++ lettersC (L + 34)) ++ listsC (L + 36)) ++ histC (L + 42)) ++ searchC (L + 84)) ++ pairsC (L + 89))) = L + 93 := len_at hL rfl
  refine g_aload_n dX8_init_97 0 rfl ?_
  have hc0 := hc
  refine g_new (ds := [.null, .null, .null, .int 0, .int 0]) dX8_init_98 kX3 wkX8_54 wtX3 wzX3 dvX3 (fun _ _ => rfl) dcX3 hc ⟨(show L < _ by rw [hlen]; omega), trivial⟩ ⟨(show L < _ by rw [hlen]; omega), trivial⟩ (Nat.le_of_ble_eq_true rfl) (Nat.le_of_ble_eq_true rfl) (fun hc => ?_)
  rw [hlen]
  have hlen2 : List.length (α := aC) ((b ++ .inr (8, [.ref (L + 1), .ref (L + 12), .ref (L + 23), .int (nI 0), .ref (L + 34), .ref (L + 36), .ref (L + 42), .ref (L + 84), .ref (L + 89), .null, .null]) :: (((((((([] ++ stateC (L + 1)) ++ stateC (L + 12)) ++ stateC (L + 23)) ++ lettersC (L + 34)) ++ listsC (L + 36)) ++ histC (L + 42)) ++ searchC (L + 84)) ++ pairsC (L + 89))) ++ [.inr (3, [.null, .null, .null, .int 0, .int 0])]) = L + 94 := by rw [List.length_append, hlen]; rfl
  refine g_dup dX8_init_101 rfl ?_
  refine g_initN (mc := 3) (ms := 18) dX8_init_102 (ec_X3 hc0 hlen) oX3_init rfl wiX3_init wqX8_56 ⟨Nat.le_of_ble_eq_true rfl, Nat.le_of_ble_eq_true rfl⟩ ⟨Nat.le_of_ble_eq_true rfl, Nat.le_of_ble_eq_true rfl⟩ (Nat.le_of_ble_eq_true rfl) ⟨(show L < _ by rw [hlen2]; omega), trivial⟩ ⟨(show L + 93 < _ by rw [hlen2]; omega), ⟨(show L < _ by rw [hlen2]; omega), trivial⟩⟩ (fun h1 q1 => ?_)
  obtain ⟨rfl, hc⟩ := q1
  rw [grow_at] at hc ⊢
  have hlen : List.length (α := aC) (b ++ .inr (8, [.ref (L + 1), .ref (L + 12), .ref (L + 23), .int (nI 0), .ref (L + 34), .ref (L + 36), .ref (L + 42), .ref (L + 84), .ref (L + 89), .null, .null]) :: ((((((((([] ++ stateC (L + 1)) ++ stateC (L + 12)) ++ stateC (L + 23)) ++ lettersC (L + 34)) ++ listsC (L + 36)) ++ histC (L + 42)) ++ searchC (L + 84)) ++ pairsC (L + 89)) ++ pairsC (L + 93))) = L + 97 := len_at hL rfl
  refine g_putF dX8_init_105 kX8 wfX8_61 (Nat.le_of_ble_eq_true rfl) rfl rfl rfl (fun _ _ => ⟨rfl, rfl⟩) (rd_at hL) (Nat.le_of_ble_eq_true rfl) (fs' := [.ref (L + 1), .ref (L + 12), .ref (L + 23), .int (nI 0), .ref (L + 34), .ref (L + 36), .ref (L + 42), .ref (L + 84), .ref (L + 89), .ref (L + 93), .null]) rfl ?_
  have hc := clH_wr (kf := 9) (v := .ref (L + 93)) hc (rd_at hL) (show L + 93 < _ by rw [hlen]; omega)
  rw [wr_at hL] at hc ⊢
  have hc : clH (b ++ .inr (8, [.ref (L + 1), .ref (L + 12), .ref (L + 23), .int (nI 0), .ref (L + 34), .ref (L + 36), .ref (L + 42), .ref (L + 84), .ref (L + 89), .ref (L + 93), .null]) :: ((((((((([] ++ stateC (L + 1)) ++ stateC (L + 12)) ++ stateC (L + 23)) ++ lettersC (L + 34)) ++ listsC (L + 36)) ++ histC (L + 42)) ++ searchC (L + 84)) ++ pairsC (L + 89)) ++ pairsC (L + 93))) := hc
  have hlen : List.length (α := aC) (b ++ .inr (8, [.ref (L + 1), .ref (L + 12), .ref (L + 23), .int (nI 0), .ref (L + 34), .ref (L + 36), .ref (L + 42), .ref (L + 84), .ref (L + 89), .ref (L + 93), .null]) :: ((((((((([] ++ stateC (L + 1)) ++ stateC (L + 12)) ++ stateC (L + 23)) ++ lettersC (L + 34)) ++ listsC (L + 36)) ++ histC (L + 42)) ++ searchC (L + 84)) ++ pairsC (L + 89)) ++ pairsC (L + 93))) = L + 97 := len_at hL rfl
  refine g_aload_n dX8_init_108 0 rfl ?_
  refine g_bipush (v := nI 7) dX8_init_109 (by decide +kernel) ?_
  refine g_newa dX8_init_111 (Nat.le_of_ble_eq_true rfl) hc ⟨(show L < _ by rw [hlen]; omega), trivial⟩ ⟨(show L < _ by rw [hlen]; omega), trivial⟩ (Nat.le_of_ble_eq_true rfl) (Nat.le_of_ble_eq_true rfl) (fun hc => ?_)
  rw [hlen]
  rw [grow_at] at hc ⊢
  have hlen : List.length (α := aC) (b ++ .inr (8, [.ref (L + 1), .ref (L + 12), .ref (L + 23), .int (nI 0), .ref (L + 34), .ref (L + 36), .ref (L + 42), .ref (L + 84), .ref (L + 89), .ref (L + 93), .null]) :: (((((((((([] ++ stateC (L + 1)) ++ stateC (L + 12)) ++ stateC (L + 23)) ++ lettersC (L + 34)) ++ listsC (L + 36)) ++ histC (L + 42)) ++ searchC (L + 84)) ++ pairsC (L + 89)) ++ pairsC (L + 93)) ++ [zC 7])) = L + 98 := len_at hL rfl
  refine g_putF dX8_init_113 kX8 wfX8_64 (Nat.le_of_ble_eq_true rfl) rfl rfl rfl (fun _ _ => ⟨rfl, rfl⟩) (rd_at hL) (Nat.le_of_ble_eq_true rfl) (fs' := [.ref (L + 1), .ref (L + 12), .ref (L + 23), .int (nI 0), .ref (L + 34), .ref (L + 36), .ref (L + 42), .ref (L + 84), .ref (L + 89), .ref (L + 93), .ref (L + 97)]) rfl ?_
  have hc := clH_wr (kf := 10) (v := .ref (L + 97)) hc (rd_at hL) (show L + 97 < _ by rw [hlen]; omega)
  rw [wr_at hL] at hc ⊢
  have hc : clH (b ++ .inr (8, [.ref (L + 1), .ref (L + 12), .ref (L + 23), .int (nI 0), .ref (L + 34), .ref (L + 36), .ref (L + 42), .ref (L + 84), .ref (L + 89), .ref (L + 93), .ref (L + 97)]) :: (((((((((([] ++ stateC (L + 1)) ++ stateC (L + 12)) ++ stateC (L + 23)) ++ lettersC (L + 34)) ++ listsC (L + 36)) ++ histC (L + 42)) ++ searchC (L + 84)) ++ pairsC (L + 89)) ++ pairsC (L + 93)) ++ [zC 7])) := hc
  have hlen : List.length (α := aC) (b ++ .inr (8, [.ref (L + 1), .ref (L + 12), .ref (L + 23), .int (nI 0), .ref (L + 34), .ref (L + 36), .ref (L + 42), .ref (L + 84), .ref (L + 89), .ref (L + 93), .ref (L + 97)]) :: (((((((((([] ++ stateC (L + 1)) ++ stateC (L + 12)) ++ stateC (L + 23)) ++ lettersC (L + 34)) ++ listsC (L + 36)) ++ histC (L + 42)) ++ searchC (L + 84)) ++ pairsC (L + 89)) ++ pairsC (L + 93)) ++ [zC 7])) = L + 98 := len_at hL rfl
  exact g_vret dX8_init_116 rfl ⟨Nat.le_of_ble_eq_true rfl, Nat.le_of_ble_eq_true rfl⟩ ⟨rfl, rfl, hc⟩
