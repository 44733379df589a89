theorem hx_goBack {h : List aC} {n m a : Nat} {f : Nat → Pr} {tu : Nat → Nat × Nat} {rm : Nat → Nat → Nat} {e : Hs} {t : List Hs} (H : HR h n m rm (e :: t)) (hS : StA h 1 (n, m, f, a, tu, rm)) (hn : n ≤ 13) : Ev mX0_goBack 2 0 0 [.ref 42, .ref 1] h (pq none (fun h2 => ∃ hm, Smo 42 43 h hm ∧ Smo 1 12 hm h2 ∧ HR h2 n m e.2 t ∧ StA h2 1 (n, m, e.1, a, tu, e.2))) := by
  obtain ⟨h1, nx, HF, HS, HD, PL, CO, hA, h2, h3⟩ := H
  obtain ⟨hO, F, S, A, K, U, C, T, hP, hf, hT, ht, hR, hC, hl⟩ := hS
  rw [List.length_cons] at h1
  have r0 := h3 0 (Nat.succ_pos _)
  have y0 : (nx + 11 - 0) % 12 = (nx + 12 - 1) % 12 := rfl
  rw [y0] at r0
  obtain ⟨g1, g2⟩ := r0
  have am0 : 0 < (e :: t).length := Nat.succ_pos _
  have rest : ∀ h2', HA h2' ((nx + 12 - 1) % 12) ((e :: t).length - 1) HF HS HD PL CO → HR h2' n m e.2 t := fun h2' q => ⟨by omega, _, _, _, _, _, _, q, by omega, fun j hj => by
    have z := h3 (j + 1) (Nat.succ_lt_succ hj)
    rw [show (nx + 11 - (j + 1)) % 12 = ((nx + 12 - 1) % 12 + 11 - j) % 12 by omega, show rmA rm (e :: t) (j + 1) = rmA e.2 t j by
      unfold rmA
      rw [if_neg (by omega), Nat.add_sub_cancel]
      cases j with
      | zero => rfl
      | succ j => rw [if_neg (by omega), Nat.add_sub_cancel]; rfl] at z
    exact z⟩
  have tt : ∀ h2' hm, Smo 42 43 h hm → (∀ q, (q = 1 ∨ 6 ≤ q ∧ q ≤ 8) → rd h2' q = rd hm q) → TA h2' 6 a K U ∧ rd h2' 1 = some (.inr (6, [.ref 2, .ref 6, .ref 9])) := fun h2' hm s1 s3 => ⟨⟨by rw [s3 6 (by omega), s1 6 (by omega)]; exact hT.1, by rw [s3 7 (by omega), s1 7 (by omega)]; exact hT.2.1, by rw [s3 8 (by omega), s1 8 (by omega)]; exact hT.2.2.1, hT.2.2.2⟩, by rw [s3 1 (by omega), s1 1 (by omega)]; exact hO⟩
  rcases g2 with ⟨p1, p2⟩ | ⟨x, y, hx, hy, p1, p2, p3⟩
  · refine (ev_goBack0 hA h2 (by rw [List.length_cons]; omega) am0 rfl hO hP hR p1).mono ?_
    rintro w h2' ⟨rfl, hm, s1, s2, s3, q1, q2, q3⟩
    have z := tt h2' hm s1 s3
    have p2' : e.2 = rm := p2
    exact ⟨rfl, hm, s1, s2, rest h2' q1, ⟨z.2, _, _, _, K, U, C, T, q2, g1, z.1, ht, q3, by rw [p2']; exact hC, hl⟩⟩
  · have hxy : x * n + y < 169 := pl_lt hn hx hy
    refine (ev_goBack1 hA h2 (by rw [List.length_cons]; omega) am0 rfl hO hP hR (x * n + y) hxy p1).mono ?_
    rintro w h2' ⟨rfl, hm, s1, s2, s3, q1, q2, q3⟩
    have z := tt h2' hm s1 s3
    have p2' : e.2 = u2 rm x y (CO.getD ((nx + 12 - 1) % 12) 0) := p2
    refine ⟨rfl, hm, s1, s2, rest h2' q1, ⟨z.2, _, _, _, K, U, _, T, q2, g1, z.1, ht, q3, by rw [p2']; exact hC.set hR.2.2.2.1 hn hx hy, fun i hi => ?_⟩⟩
    by_cases q : x * n + y = i
    · rw [← q, setK_eq (by rw [hR.2.2.2.1]; exact hxy)]; exact p3
    · rw [setK_ne q]; exact hl i hi
