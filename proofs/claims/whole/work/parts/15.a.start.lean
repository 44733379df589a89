theorem repm (n : Nat) : (List.replicate n 0).map nI = List.replicate n (0 : Int32) := by rw [List.map_replicate]; rfl
theorem repd (n i : Nat) : (List.replicate n 0).getD i 0 = 0 := by
  rw [List.getD_eq_getElem?_getD, List.getElem?_replicate]; split <;> rfl
theorem ok0 : okSg sg0 := ⟨⟨by decide, by decide, by decide, by decide, fun k hk => absurd hk (Nat.not_lt_zero k), by decide, fun k hk => absurd hk (Nat.not_lt_zero k), fun _ _ _ _ => Or.inl rfl, fun _ _ _ => rfl⟩, ⟨by decide, fun i hi => absurd hi (Nat.not_lt_zero i)⟩, fun y hy => Or.inl (by
  have : y = 0 ∨ y = 1 ∨ y = 2 := by omega
  rcases this with rfl | rfl | rfl <;> rfl), ⟨by decide, fun e he => absurd he List.not_mem_nil⟩, (fun c h => (by cases h)), List.length_replicate⟩

set_option maxRecDepth 100000 in
set_option maxHeartbeats 4000000 in
theorem st0_1 : StA (objC 0) 1 sg0.1 := ⟨rfl, List.replicate 6 0, List.replicate 6 0, List.replicate 6 0, List.replicate 6 0, List.replicate 6 0, List.replicate 169 0, List.replicate 196 0, ⟨rfl, by rw [repm]; rfl, by rw [repm]; rfl, by rw [repm]; rfl, List.length_replicate, List.length_replicate, List.length_replicate⟩, fun i hi => absurd hi (Nat.not_lt_zero i), ⟨rfl, by rw [repm]; rfl, by rw [repm]; rfl, List.length_replicate, List.length_replicate⟩, fun i hi => absurd hi (Nat.not_lt_zero i), ⟨rfl, by rw [repm]; rfl, rfl, List.length_replicate, List.length_replicate⟩, fun a b _ _ => repd _ _, fun i _ => by rw [repd]; decide⟩

set_option maxRecDepth 100000 in
set_option maxHeartbeats 4000000 in
theorem st0_12 : StA (objC 0) 12 sg0.1 := ⟨rfl, List.replicate 6 0, List.replicate 6 0, List.replicate 6 0, List.replicate 6 0, List.replicate 6 0, List.replicate 169 0, List.replicate 196 0, ⟨rfl, by rw [repm]; rfl, by rw [repm]; rfl, by rw [repm]; rfl, List.length_replicate, List.length_replicate, List.length_replicate⟩, fun i hi => absurd hi (Nat.not_lt_zero i), ⟨rfl, by rw [repm]; rfl, by rw [repm]; rfl, List.length_replicate, List.length_replicate⟩, fun i hi => absurd hi (Nat.not_lt_zero i), ⟨rfl, by rw [repm]; rfl, rfl, List.length_replicate, List.length_replicate⟩, fun a b _ _ => repd _ _, fun i _ => by rw [repd]; decide⟩

set_option maxRecDepth 100000 in
set_option maxHeartbeats 4000000 in
theorem st0_23 : StA (objC 0) 23 sg0.1 := ⟨rfl, List.replicate 6 0, List.replicate 6 0, List.replicate 6 0, List.replicate 6 0, List.replicate 6 0, List.replicate 169 0, List.replicate 196 0, ⟨rfl, by rw [repm]; rfl, by rw [repm]; rfl, by rw [repm]; rfl, List.length_replicate, List.length_replicate, List.length_replicate⟩, fun i hi => absurd hi (Nat.not_lt_zero i), ⟨rfl, by rw [repm]; rfl, by rw [repm]; rfl, List.length_replicate, List.length_replicate⟩, fun i hi => absurd hi (Nat.not_lt_zero i), ⟨rfl, by rw [repm]; rfl, rfl, List.length_replicate, List.length_replicate⟩, fun a b _ _ => repd _ _, fun i _ => by rw [repd]; decide⟩

set_option maxRecDepth 100000 in
set_option maxHeartbeats 4000000 in
theorem pq0_85 : PQ (objC 0) 85 := ⟨7, 0, List.replicate 6 0, List.replicate 6 0, List.replicate 6 0, ⟨rfl, by rw [repm]; rfl, by rw [repm]; rfl, by rw [repm]; rfl, List.length_replicate, List.length_replicate, List.length_replicate⟩⟩

set_option maxRecDepth 100000 in
set_option maxHeartbeats 4000000 in
theorem pq0_89 : PQ (objC 0) 89 := ⟨7, 0, List.replicate 6 0, List.replicate 6 0, List.replicate 6 0, ⟨rfl, by rw [repm]; rfl, by rw [repm]; rfl, by rw [repm]; rfl, List.length_replicate, List.length_replicate, List.length_replicate⟩⟩

set_option maxRecDepth 100000 in
set_option maxHeartbeats 4000000 in
theorem pq0_93 : PQ (objC 0) 93 := ⟨7, 0, List.replicate 6 0, List.replicate 6 0, List.replicate 6 0, ⟨rfl, by rw [repm]; rfl, by rw [repm]; rfl, by rw [repm]; rfl, List.length_replicate, List.length_replicate, List.length_replicate⟩⟩

set_option maxRecDepth 100000 in
set_option maxHeartbeats 4000000 in
theorem la0 : LA (objC 0) sg0.2.2.1.1 sg0.2.2.1.2 := ⟨rfl, rfl, fun i hi => ⟨by
    have : i = 0 ∨ i = 1 ∨ i = 2 := by omega
    rcases this with rfl | rfl | rfl <;> rfl, List.length_replicate⟩, rfl, rfl⟩

set_option maxRecDepth 100000 in
set_option maxHeartbeats 4000000 in
theorem hr0 : HR (objC 0) 7 0 (fun _ _ => 0) [] := ⟨Nat.zero_le _, 0, fun _ => List.replicate 6 0, fun _ => List.replicate 6 0, fun _ => List.replicate 6 0, List.replicate 12 0, List.replicate 12 0, ⟨rfl, rfl, rfl, rfl, (fun i hi => ⟨by
    rw [repm]
    have : i = 0 ∨ i = 1 ∨ i = 2 ∨ i = 3 ∨ i = 4 ∨ i = 5 ∨ i = 6 ∨ i = 7 ∨ i = 8 ∨ i = 9 ∨ i = 10 ∨ i = 11 := by omega
    rcases this with rfl | rfl | rfl | rfl | rfl | rfl | rfl | rfl | rfl | rfl | rfl | rfl <;> rfl, List.length_replicate⟩), (fun i hi => ⟨by
    rw [repm]
    have : i = 0 ∨ i = 1 ∨ i = 2 ∨ i = 3 ∨ i = 4 ∨ i = 5 ∨ i = 6 ∨ i = 7 ∨ i = 8 ∨ i = 9 ∨ i = 10 ∨ i = 11 := by omega
    rcases this with rfl | rfl | rfl | rfl | rfl | rfl | rfl | rfl | rfl | rfl | rfl | rfl <;> rfl, List.length_replicate⟩), (fun i hi => ⟨by
    rw [repm]
    have : i = 0 ∨ i = 1 ∨ i = 2 ∨ i = 3 ∨ i = 4 ∨ i = 5 ∨ i = 6 ∨ i = 7 ∨ i = 8 ∨ i = 9 ∨ i = 10 ∨ i = 11 := by omega
    rcases this with rfl | rfl | rfl | rfl | rfl | rfl | rfl | rfl | rfl | rfl | rfl | rfl <;> rfl, List.length_replicate⟩), rfl, List.length_replicate, by rw [repm]; rfl, List.length_replicate⟩, by decide, fun j hj => absurd hj (Nat.not_lt_zero j)⟩

set_option maxRecDepth 100000 in
set_option maxHeartbeats 4000000 in
theorem rc0 : RC (objC 0) sg0 := ⟨rfl, st0_1, ⟨_, st0_12, (fun c h => (by cases h))⟩, ⟨_, st0_23⟩, ⟨rfl, by show _ = some (Sum.inl ((List.replicate 72 0).map nI)); rw [repm]; rfl, List.length_replicate⟩, la0, hr0, ⟨⟨-1, 0, 0, 0, rfl⟩, pq0_85⟩, pq0_89, pq0_93, rfl⟩
theorem len0 : (objC 0).length = 98 := rfl
